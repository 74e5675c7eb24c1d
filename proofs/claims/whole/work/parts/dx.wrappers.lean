/-! THE LAW'S WRAPPERS, on any state -/
def pWv (o n : Nat) (kd : mK) (I : mI) (J : mJ) (P : mP) (k : Nat) (v : Int64) (C : Nat → mK → mI → mJ → mP → Prop) : am_Post := fun y n' kd' I' J' P' => y = .inl (some (.int (nI k))) ∧ (n ≤ n' ∧ n' ≤ n + 1) ∧ (∀ a, o + 69 ≤ a → a ≤ o + 125 → kd' a = kd a ∧ I' a = I a ∧ P' a = P a) ∧ (k = 0 → J' (o + 125) 0 = v) ∧ C n' kd' I' J' P'
theorem pWv.of {o n n' : Nat} {kd kd' : mK} {I I' : mI} {J J' : mJ} {P P' : mP} {r y : Option Value ⊕ String} {k : Nat} {v : Int64} {C : Nat → mK → mI → mJ → mP → Prop} (hk : ¬ k = 0) (h : pK o n kd I J P r C y n' kd' I' J' P') : pWv o n kd I J P k v C (.inl (some (.int (nI k)))) n' kd' I' J' P' := ⟨rfl, h.2.1, fun a a1 a2 => ⟨(h.2.2.2.1 a a1 a2).1, (h.2.2.2.1 a a1 a2).2.1, (h.2.2.2.1 a a1 a2).2.2.2⟩, fun q => absurd q hk, h.2.2.2.2⟩
theorem pWv.ok {o n n' : Nat} {kd kd' : mK} {I I' : mI} {J J' : mJ} {P P' : mP} {r y : Option Value ⊕ String} {v : Int64} {F : Nat → Int64} {C : Nat → mK → mI → mJ → mP → Prop} (hT : Tr o C) (hF : F 0 = v) (h : pK o n kd I J P r C y n' kd' I' J' P') : pWv o n kd I J P 0 v C (.inl (some (.int (nI 0)))) n' kd' I' (va_up J' (o + 125) F) P' := ⟨rfl, h.2.1, fun a a1 a2 => ⟨(h.2.2.2.1 a a1 a2).1, (h.2.2.2.1 a a1 a2).2.1, (h.2.2.2.1 a a1 a2).2.2.2⟩, fun _ => by rw [am_up_s]; exact hF, hT _ _ _ _ _ _ _ (fun a ha => ⟨rfl, am_up_n _ _ (by omega)⟩) h.2.2.2.2⟩
theorem dL_street_0 : decode cL_street 0 = .ok (.aload_n 2, 1) := by decide +kernel
theorem dL_street_1 : decode cL_street 1 = .ok (.iconst 0, 1) := by decide +kernel
theorem dL_street_2 : decode cL_street 2 = .ok (.aload_n 0, 1) := by decide +kernel
theorem dL_street_3 : decode cL_street 3 = .ok (.iload_n 1, 1) := by decide +kernel
theorem dL_street_4 : decode cL_street 4 = .ok (.invokevirtual 7, 3) := by decide +kernel
theorem dL_street_7 : decode cL_street 7 = .ok (.i2l, 1) := by decide +kernel
theorem dL_street_8 : decode cL_street 8 = .ok (.lastore, 1) := by decide +kernel
theorem dL_street_9 : decode cL_street 9 = .ok (.goto 6, 3) := by decide +kernel
theorem dL_street_12 : decode cL_street 12 = .ok (.astore_n 3, 1) := by decide +kernel
theorem dL_street_13 : decode cL_street 13 = .ok (.iconst 1, 1) := by decide +kernel
theorem dL_street_14 : decode cL_street 14 = .ok (.ireturn, 1) := by decide +kernel
theorem dL_street_15 : decode cL_street 15 = .ok (.iconst 0, 1) := by decide +kernel
theorem dL_street_16 : decode cL_street 16 = .ok (.ireturn, 1) := by decide +kernel

set_option maxHeartbeats 4000000 in
set_option maxRecDepth 100000 in
theorem v_street_0 (o : Nat) (a0 : Int32) (v : Int32) {n : Nat} {kd : mK} {I : mI} {J : mJ} {P : mP} {C : Nat → mK → mI → mJ → mP → Prop} {d2 mc ms : Nat} (hT : Tr o C) (hC : Ct yX9_street cX9_street 3 (some .int) d2 mc ms [.ref o, .int a0] n kd I J P (pK o n kd I J P (.inl (some (.int v))) C)) (hk : kd o = some (0, 9)) (hout : kd (o + 125) = some (4, 1)) : CtW [(0, 9, 12, 13)] yL_street cL_street 4 (some .int) (d2 + 1) mc ms [.ref o, .int a0, .ref (o + 125)] n kd I J P (pWv o n kd I J P 0 v.toInt64 C) := by
  refine ctw_of 1 (by decide +kernel) (Nat.le_of_ble_eq_true rfl) rfl ?_
  refine r_aload_n dL_street_0 rfl ?_
  refine r_iconst (v := nI 0) dL_street_1 (by decide) ?_
  refine r_aload_n dL_street_2 rfl ?_
  refine r_iload_n dL_street_3 rfl ?_
  refine r_virtC (kc2 := 0) (ks2 := 0) rfl hC lk_L_7 mc_X9_street dL_street_4 hk (by omega) rfl rfl (Nat.le_of_ble_eq_true rfl) (by omega) (by omega) (fun E n1 kd1 I1 J1 P1 h => nomatch h.1) (fun y n1 kd1 I1 J1 P1 h => ?_)
  obtain ⟨v1, hc⟩ : ∃ y, pK o n kd I J P (.inl (some (.int v))) C y n1 kd1 I1 J1 P1 := ⟨_, h⟩
  cases h.1
  simp only [Option.toList, List.cons_append, List.nil_append]
  have ho1 : kd1 (o + 125) = some (4, 1) := by rw [(h.2.2.2.1 (o + 125) (by omega) (by omega)).1]; exact hout
  refine r_i2l dL_street_7 ?_
  refine r_last dL_street_8 ho1 (nI_in8 1 (j := 0) (by decide) (by decide)) (nI_clamp (n := 0) (by decide)) ?_
  refine r_goto (tgt := 15) dL_street_9 (by decide) ?_
  refine r_iconst (v := nI 0) dL_street_15 (by decide) ?_
  refine r_iret rfl dL_street_16 ?_
  exact pWv.ok hT (by rw [am_up_s]) hc

set_option maxHeartbeats 4000000 in
set_option maxRecDepth 100000 in
theorem v_street_1 (o : Nat) (a0 : Int32) (v : Int64) {n : Nat} {kd : mK} {I : mI} {J : mJ} {P : mP} {C : Nat → mK → mI → mJ → mP → Prop} {d2 mc ms : Nat} (hT : Tr o C) (hC : Ct yX9_street cX9_street 3 (some .int) d2 mc ms [.ref o, .int a0] n kd I J P (pK o n kd I J P (.inr "java/lang/IllegalArgumentException") C)) (hk : kd o = some (0, 9)) (hout : kd (o + 125) = some (4, 1)) : CtW [(0, 9, 12, 13)] yL_street cL_street 4 (some .int) (d2 + 1) mc ms [.ref o, .int a0, .ref (o + 125)] n kd I J P (pWv o n kd I J P 1 v C) := by
  refine ctw_of 1 (by decide +kernel) (Nat.le_of_ble_eq_true rfl) rfl ?_
  refine r_aload_n dL_street_0 rfl ?_
  refine r_iconst (v := nI 0) dL_street_1 (by decide) ?_
  refine r_aload_n dL_street_2 rfl ?_
  refine r_iload_n dL_street_3 rfl ?_
  refine r_virtC (kc2 := 0) (ks2 := 0) rfl hC lk_L_7 mc_X9_street dL_street_4 hk (by omega) rfl rfl (Nat.le_of_ble_eq_true rfl) (by omega) (by omega) (fun E n1 kd1 I1 J1 P1 h => ?_) (fun y n1 kd1 I1 J1 P1 h => nomatch h.1)
  have hE : E = "java/lang/IllegalArgumentException" := Sum.inr.inj h.1
  subst hE
  exact ⟨nI 1, ⟨by decide, [], ⟨0, 9, 12, 13⟩, [], rfl, (fun z hz => nomatch hz), by decide, by decide, cl_L_13, 1, Or.inl ⟨3, dL_street_12, by decide, rfl⟩, ⟨1, dL_street_13, rfl⟩, dL_street_14⟩, pWv.of (by decide) h⟩

theorem dL_count_0 : decode cL_count 0 = .ok (.aload_n 2, 1) := by decide +kernel
theorem dL_count_1 : decode cL_count 1 = .ok (.iconst 0, 1) := by decide +kernel
theorem dL_count_2 : decode cL_count 2 = .ok (.aload_n 0, 1) := by decide +kernel
theorem dL_count_3 : decode cL_count 3 = .ok (.iload_n 1, 1) := by decide +kernel
theorem dL_count_4 : decode cL_count 4 = .ok (.invokevirtual 15, 3) := by decide +kernel
theorem dL_count_7 : decode cL_count 7 = .ok (.i2l, 1) := by decide +kernel
theorem dL_count_8 : decode cL_count 8 = .ok (.lastore, 1) := by decide +kernel
theorem dL_count_9 : decode cL_count 9 = .ok (.goto 6, 3) := by decide +kernel
theorem dL_count_12 : decode cL_count 12 = .ok (.astore_n 3, 1) := by decide +kernel
theorem dL_count_13 : decode cL_count 13 = .ok (.iconst 1, 1) := by decide +kernel
theorem dL_count_14 : decode cL_count 14 = .ok (.ireturn, 1) := by decide +kernel
theorem dL_count_15 : decode cL_count 15 = .ok (.iconst 0, 1) := by decide +kernel
theorem dL_count_16 : decode cL_count 16 = .ok (.ireturn, 1) := by decide +kernel

set_option maxHeartbeats 4000000 in
set_option maxRecDepth 100000 in
theorem v_count_0 (o : Nat) (a0 : Int32) (v : Int32) {n : Nat} {kd : mK} {I : mI} {J : mJ} {P : mP} {C : Nat → mK → mI → mJ → mP → Prop} {d2 mc ms : Nat} (hT : Tr o C) (hC : Ct yX9_count cX9_count 2 (some .int) d2 mc ms [.ref o, .int a0] n kd I J P (pK o n kd I J P (.inl (some (.int v))) C)) (hk : kd o = some (0, 9)) (hout : kd (o + 125) = some (4, 1)) : CtW [(0, 9, 12, 18)] yL_count cL_count 4 (some .int) (d2 + 1) mc ms [.ref o, .int a0, .ref (o + 125)] n kd I J P (pWv o n kd I J P 0 v.toInt64 C) := by
  refine ctw_of 1 (by decide +kernel) (Nat.le_of_ble_eq_true rfl) rfl ?_
  refine r_aload_n dL_count_0 rfl ?_
  refine r_iconst (v := nI 0) dL_count_1 (by decide) ?_
  refine r_aload_n dL_count_2 rfl ?_
  refine r_iload_n dL_count_3 rfl ?_
  refine r_virtC (kc2 := 0) (ks2 := 0) rfl hC lk_L_15 mc_X9_count dL_count_4 hk (by omega) rfl rfl (Nat.le_of_ble_eq_true rfl) (by omega) (by omega) (fun E n1 kd1 I1 J1 P1 h => nomatch h.1) (fun y n1 kd1 I1 J1 P1 h => ?_)
  obtain ⟨v1, hc⟩ : ∃ y, pK o n kd I J P (.inl (some (.int v))) C y n1 kd1 I1 J1 P1 := ⟨_, h⟩
  cases h.1
  simp only [Option.toList, List.cons_append, List.nil_append]
  have ho1 : kd1 (o + 125) = some (4, 1) := by rw [(h.2.2.2.1 (o + 125) (by omega) (by omega)).1]; exact hout
  refine r_i2l dL_count_7 ?_
  refine r_last dL_count_8 ho1 (nI_in8 1 (j := 0) (by decide) (by decide)) (nI_clamp (n := 0) (by decide)) ?_
  refine r_goto (tgt := 15) dL_count_9 (by decide) ?_
  refine r_iconst (v := nI 0) dL_count_15 (by decide) ?_
  refine r_iret rfl dL_count_16 ?_
  exact pWv.ok hT (by rw [am_up_s]) hc

set_option maxHeartbeats 4000000 in
set_option maxRecDepth 100000 in
theorem v_count_1 (o : Nat) (a0 : Int32) (v : Int64) {n : Nat} {kd : mK} {I : mI} {J : mJ} {P : mP} {C : Nat → mK → mI → mJ → mP → Prop} {d2 mc ms : Nat} (hT : Tr o C) (hC : Ct yX9_count cX9_count 2 (some .int) d2 mc ms [.ref o, .int a0] n kd I J P (pK o n kd I J P (.inr "java/util/NoSuchElementException") C)) (hk : kd o = some (0, 9)) (hout : kd (o + 125) = some (4, 1)) : CtW [(0, 9, 12, 18)] yL_count cL_count 4 (some .int) (d2 + 1) mc ms [.ref o, .int a0, .ref (o + 125)] n kd I J P (pWv o n kd I J P 1 v C) := by
  refine ctw_of 1 (by decide +kernel) (Nat.le_of_ble_eq_true rfl) rfl ?_
  refine r_aload_n dL_count_0 rfl ?_
  refine r_iconst (v := nI 0) dL_count_1 (by decide) ?_
  refine r_aload_n dL_count_2 rfl ?_
  refine r_iload_n dL_count_3 rfl ?_
  refine r_virtC (kc2 := 0) (ks2 := 0) rfl hC lk_L_15 mc_X9_count dL_count_4 hk (by omega) rfl rfl (Nat.le_of_ble_eq_true rfl) (by omega) (by omega) (fun E n1 kd1 I1 J1 P1 h => ?_) (fun y n1 kd1 I1 J1 P1 h => nomatch h.1)
  have hE : E = "java/util/NoSuchElementException" := Sum.inr.inj h.1
  subst hE
  exact ⟨nI 1, ⟨by decide, [], ⟨0, 9, 12, 18⟩, [], rfl, (fun z hz => nomatch hz), by decide, by decide, cl_L_18, 1, Or.inl ⟨3, dL_count_12, by decide, rfl⟩, ⟨1, dL_count_13, rfl⟩, dL_count_14⟩, pWv.of (by decide) h⟩

theorem dL_house_0 : decode cL_house 0 = .ok (.aload_n 3, 1) := by decide +kernel
theorem dL_house_1 : decode cL_house 1 = .ok (.iconst 0, 1) := by decide +kernel
theorem dL_house_2 : decode cL_house 2 = .ok (.aload_n 0, 1) := by decide +kernel
theorem dL_house_3 : decode cL_house 3 = .ok (.iload_n 1, 1) := by decide +kernel
theorem dL_house_4 : decode cL_house 4 = .ok (.iload_n 2, 1) := by decide +kernel
theorem dL_house_5 : decode cL_house 5 = .ok (.invokevirtual 20, 3) := by decide +kernel
theorem dL_house_8 : decode cL_house 8 = .ok (.i2l, 1) := by decide +kernel
theorem dL_house_9 : decode cL_house 9 = .ok (.lastore, 1) := by decide +kernel
theorem dL_house_10 : decode cL_house 10 = .ok (.goto 7, 3) := by decide +kernel
theorem dL_house_13 : decode cL_house 13 = .ok (.astore 4, 2) := by decide +kernel
theorem dL_house_15 : decode cL_house 15 = .ok (.iconst 1, 1) := by decide +kernel
theorem dL_house_16 : decode cL_house 16 = .ok (.ireturn, 1) := by decide +kernel
theorem dL_house_17 : decode cL_house 17 = .ok (.iconst 0, 1) := by decide +kernel
theorem dL_house_18 : decode cL_house 18 = .ok (.ireturn, 1) := by decide +kernel

set_option maxHeartbeats 4000000 in
set_option maxRecDepth 100000 in
theorem v_house_0 (o : Nat) (a0 : Int32) (a1 : Int32) (v : Int32) {n : Nat} {kd : mK} {I : mI} {J : mJ} {P : mP} {C : Nat → mK → mI → mJ → mP → Prop} {d2 mc ms : Nat} (hT : Tr o C) (hC : Ct yX9_house cX9_house 3 (some .int) d2 mc ms [.ref o, .int a0, .int a1] n kd I J P (pK o n kd I J P (.inl (some (.int v))) C)) (hk : kd o = some (0, 9)) (hout : kd (o + 125) = some (4, 1)) : CtW [(0, 10, 13, 18)] yL_house cL_house 5 (some .int) (d2 + 1) mc ms [.ref o, .int a0, .int a1, .ref (o + 125)] n kd I J P (pWv o n kd I J P 0 v.toInt64 C) := by
  refine ctw_of 1 (by decide +kernel) (Nat.le_of_ble_eq_true rfl) rfl ?_
  refine r_aload_n dL_house_0 rfl ?_
  refine r_iconst (v := nI 0) dL_house_1 (by decide) ?_
  refine r_aload_n dL_house_2 rfl ?_
  refine r_iload_n dL_house_3 rfl ?_
  refine r_iload_n dL_house_4 rfl ?_
  refine r_virtC (kc2 := 0) (ks2 := 0) rfl hC lk_L_20 mc_X9_house dL_house_5 hk (by omega) rfl rfl (Nat.le_of_ble_eq_true rfl) (by omega) (by omega) (fun E n1 kd1 I1 J1 P1 h => nomatch h.1) (fun y n1 kd1 I1 J1 P1 h => ?_)
  obtain ⟨v1, hc⟩ : ∃ y, pK o n kd I J P (.inl (some (.int v))) C y n1 kd1 I1 J1 P1 := ⟨_, h⟩
  cases h.1
  simp only [Option.toList, List.cons_append, List.nil_append]
  have ho1 : kd1 (o + 125) = some (4, 1) := by rw [(h.2.2.2.1 (o + 125) (by omega) (by omega)).1]; exact hout
  refine r_i2l dL_house_8 ?_
  refine r_last dL_house_9 ho1 (nI_in8 1 (j := 0) (by decide) (by decide)) (nI_clamp (n := 0) (by decide)) ?_
  refine r_goto (tgt := 17) dL_house_10 (by decide) ?_
  refine r_iconst (v := nI 0) dL_house_17 (by decide) ?_
  refine r_iret rfl dL_house_18 ?_
  exact pWv.ok hT (by rw [am_up_s]) hc

set_option maxHeartbeats 4000000 in
set_option maxRecDepth 100000 in
theorem v_house_1 (o : Nat) (a0 : Int32) (a1 : Int32) (v : Int64) {n : Nat} {kd : mK} {I : mI} {J : mJ} {P : mP} {C : Nat → mK → mI → mJ → mP → Prop} {d2 mc ms : Nat} (hT : Tr o C) (hC : Ct yX9_house cX9_house 3 (some .int) d2 mc ms [.ref o, .int a0, .int a1] n kd I J P (pK o n kd I J P (.inr "java/util/NoSuchElementException") C)) (hk : kd o = some (0, 9)) (hout : kd (o + 125) = some (4, 1)) : CtW [(0, 10, 13, 18)] yL_house cL_house 5 (some .int) (d2 + 1) mc ms [.ref o, .int a0, .int a1, .ref (o + 125)] n kd I J P (pWv o n kd I J P 1 v C) := by
  refine ctw_of 1 (by decide +kernel) (Nat.le_of_ble_eq_true rfl) rfl ?_
  refine r_aload_n dL_house_0 rfl ?_
  refine r_iconst (v := nI 0) dL_house_1 (by decide) ?_
  refine r_aload_n dL_house_2 rfl ?_
  refine r_iload_n dL_house_3 rfl ?_
  refine r_iload_n dL_house_4 rfl ?_
  refine r_virtC (kc2 := 0) (ks2 := 0) rfl hC lk_L_20 mc_X9_house dL_house_5 hk (by omega) rfl rfl (Nat.le_of_ble_eq_true rfl) (by omega) (by omega) (fun E n1 kd1 I1 J1 P1 h => ?_) (fun y n1 kd1 I1 J1 P1 h => nomatch h.1)
  have hE : E = "java/util/NoSuchElementException" := Sum.inr.inj h.1
  subst hE
  exact ⟨nI 1, ⟨by decide, [], ⟨0, 10, 13, 18⟩, [], rfl, (fun z hz => nomatch hz), by decide, by decide, cl_L_18, 2, Or.inr ⟨4, dL_house_13, by decide, rfl⟩, ⟨1, dL_house_15, rfl⟩, dL_house_16⟩, pWv.of (by decide) h⟩

theorem dL_become_0 : decode cL_become 0 = .ok (.aload 4, 2) := by decide +kernel
theorem dL_become_2 : decode cL_become 2 = .ok (.iconst 0, 1) := by decide +kernel
theorem dL_become_3 : decode cL_become 3 = .ok (.aload_n 0, 1) := by decide +kernel
theorem dL_become_4 : decode cL_become 4 = .ok (.iload_n 1, 1) := by decide +kernel
theorem dL_become_5 : decode cL_become 5 = .ok (.iload_n 2, 1) := by decide +kernel
theorem dL_become_6 : decode cL_become 6 = .ok (.iload_n 3, 1) := by decide +kernel
theorem dL_become_7 : decode cL_become 7 = .ok (.invokevirtual 24, 3) := by decide +kernel
theorem dL_become_10 : decode cL_become 10 = .ok (.i2l, 1) := by decide +kernel
theorem dL_become_11 : decode cL_become 11 = .ok (.lastore, 1) := by decide +kernel
theorem dL_become_12 : decode cL_become 12 = .ok (.goto 7, 3) := by decide +kernel
theorem dL_become_15 : decode cL_become 15 = .ok (.astore 5, 2) := by decide +kernel
theorem dL_become_17 : decode cL_become 17 = .ok (.iconst 1, 1) := by decide +kernel
theorem dL_become_18 : decode cL_become 18 = .ok (.ireturn, 1) := by decide +kernel
theorem dL_become_19 : decode cL_become 19 = .ok (.iconst 0, 1) := by decide +kernel
theorem dL_become_20 : decode cL_become 20 = .ok (.ireturn, 1) := by decide +kernel

set_option maxHeartbeats 4000000 in
set_option maxRecDepth 100000 in
theorem v_become_0 (o : Nat) (a0 : Int32) (a1 : Int32) (a2 : Int32) (v : Int32) {n : Nat} {kd : mK} {I : mI} {J : mJ} {P : mP} {C : Nat → mK → mI → mJ → mP → Prop} {d2 mc ms : Nat} (hT : Tr o C) (hC : Ct yX9_become cX9_become 5 (some .int) d2 mc ms [.ref o, .int a0, .int a1, .int a2] n kd I J P (pK o n kd I J P (.inl (some (.int v))) C)) (hk : kd o = some (0, 9)) (hout : kd (o + 125) = some (4, 1)) : CtW [(0, 12, 15, 18)] yL_become cL_become 6 (some .int) (d2 + 1) mc ms [.ref o, .int a0, .int a1, .int a2, .ref (o + 125)] n kd I J P (pWv o n kd I J P 0 v.toInt64 C) := by
  refine ctw_of 1 (by decide +kernel) (Nat.le_of_ble_eq_true rfl) rfl ?_
  refine r_aload dL_become_0 rfl ?_
  refine r_iconst (v := nI 0) dL_become_2 (by decide) ?_
  refine r_aload_n dL_become_3 rfl ?_
  refine r_iload_n dL_become_4 rfl ?_
  refine r_iload_n dL_become_5 rfl ?_
  refine r_iload_n dL_become_6 rfl ?_
  refine r_virtC (kc2 := 0) (ks2 := 0) rfl hC lk_L_24 mc_X9_become dL_become_7 hk (by omega) rfl rfl (Nat.le_of_ble_eq_true rfl) (by omega) (by omega) (fun E n1 kd1 I1 J1 P1 h => nomatch h.1) (fun y n1 kd1 I1 J1 P1 h => ?_)
  obtain ⟨v1, hc⟩ : ∃ y, pK o n kd I J P (.inl (some (.int v))) C y n1 kd1 I1 J1 P1 := ⟨_, h⟩
  cases h.1
  simp only [Option.toList, List.cons_append, List.nil_append]
  have ho1 : kd1 (o + 125) = some (4, 1) := by rw [(h.2.2.2.1 (o + 125) (by omega) (by omega)).1]; exact hout
  refine r_i2l dL_become_10 ?_
  refine r_last dL_become_11 ho1 (nI_in8 1 (j := 0) (by decide) (by decide)) (nI_clamp (n := 0) (by decide)) ?_
  refine r_goto (tgt := 19) dL_become_12 (by decide) ?_
  refine r_iconst (v := nI 0) dL_become_19 (by decide) ?_
  refine r_iret rfl dL_become_20 ?_
  exact pWv.ok hT (by rw [am_up_s]) hc

set_option maxHeartbeats 4000000 in
set_option maxRecDepth 100000 in
theorem v_become_1 (o : Nat) (a0 : Int32) (a1 : Int32) (a2 : Int32) (v : Int64) {n : Nat} {kd : mK} {I : mI} {J : mJ} {P : mP} {C : Nat → mK → mI → mJ → mP → Prop} {d2 mc ms : Nat} (hT : Tr o C) (hC : Ct yX9_become cX9_become 5 (some .int) d2 mc ms [.ref o, .int a0, .int a1, .int a2] n kd I J P (pK o n kd I J P (.inr "java/util/NoSuchElementException") C)) (hk : kd o = some (0, 9)) (hout : kd (o + 125) = some (4, 1)) : CtW [(0, 12, 15, 18)] yL_become cL_become 6 (some .int) (d2 + 1) mc ms [.ref o, .int a0, .int a1, .int a2, .ref (o + 125)] n kd I J P (pWv o n kd I J P 1 v C) := by
  refine ctw_of 1 (by decide +kernel) (Nat.le_of_ble_eq_true rfl) rfl ?_
  refine r_aload dL_become_0 rfl ?_
  refine r_iconst (v := nI 0) dL_become_2 (by decide) ?_
  refine r_aload_n dL_become_3 rfl ?_
  refine r_iload_n dL_become_4 rfl ?_
  refine r_iload_n dL_become_5 rfl ?_
  refine r_iload_n dL_become_6 rfl ?_
  refine r_virtC (kc2 := 0) (ks2 := 0) rfl hC lk_L_24 mc_X9_become dL_become_7 hk (by omega) rfl rfl (Nat.le_of_ble_eq_true rfl) (by omega) (by omega) (fun E n1 kd1 I1 J1 P1 h => ?_) (fun y n1 kd1 I1 J1 P1 h => nomatch h.1)
  have hE : E = "java/util/NoSuchElementException" := Sum.inr.inj h.1
  subst hE
  exact ⟨nI 1, ⟨by decide, [], ⟨0, 12, 15, 18⟩, [], rfl, (fun z hz => nomatch hz), by decide, by decide, cl_L_18, 2, Or.inr ⟨5, dL_become_15, by decide, rfl⟩, ⟨1, dL_become_17, rfl⟩, dL_become_18⟩, pWv.of (by decide) h⟩

theorem dL_mute_0 : decode cL_mute 0 = .ok (.aload_n 3, 1) := by decide +kernel
theorem dL_mute_1 : decode cL_mute 1 = .ok (.iconst 0, 1) := by decide +kernel
theorem dL_mute_2 : decode cL_mute 2 = .ok (.aload_n 0, 1) := by decide +kernel
theorem dL_mute_3 : decode cL_mute 3 = .ok (.iload_n 1, 1) := by decide +kernel
theorem dL_mute_4 : decode cL_mute 4 = .ok (.iload_n 2, 1) := by decide +kernel
theorem dL_mute_5 : decode cL_mute 5 = .ok (.invokevirtual 28, 3) := by decide +kernel
theorem dL_mute_8 : decode cL_mute 8 = .ok (.ifCond .eq 7, 3) := by decide +kernel
theorem dL_mute_11 : decode cL_mute 11 = .ok (.lconst 1, 1) := by decide +kernel
theorem dL_mute_12 : decode cL_mute 12 = .ok (.goto 4, 3) := by decide +kernel
theorem dL_mute_15 : decode cL_mute 15 = .ok (.lconst 0, 1) := by decide +kernel
theorem dL_mute_16 : decode cL_mute 16 = .ok (.lastore, 1) := by decide +kernel
theorem dL_mute_17 : decode cL_mute 17 = .ok (.goto 7, 3) := by decide +kernel
theorem dL_mute_20 : decode cL_mute 20 = .ok (.astore 4, 2) := by decide +kernel
theorem dL_mute_22 : decode cL_mute 22 = .ok (.iconst 1, 1) := by decide +kernel
theorem dL_mute_23 : decode cL_mute 23 = .ok (.ireturn, 1) := by decide +kernel
theorem dL_mute_24 : decode cL_mute 24 = .ok (.iconst 0, 1) := by decide +kernel
theorem dL_mute_25 : decode cL_mute 25 = .ok (.ireturn, 1) := by decide +kernel

set_option maxHeartbeats 4000000 in
set_option maxRecDepth 100000 in
theorem v_mute_00 (o : Nat) (a0 : Int32) (a1 : Int32) {n : Nat} {kd : mK} {I : mI} {J : mJ} {P : mP} {C : Nat → mK → mI → mJ → mP → Prop} {d2 mc ms : Nat} (hT : Tr o C) (hC : Ct yX9_mute cX9_mute 4 (some .boolean) d2 mc ms [.ref o, .int a0, .int a1] n kd I J P (pK o n kd I J P (.inl (some (.int (nI 0)))) C)) (hk : kd o = some (0, 9)) (hout : kd (o + 125) = some (4, 1)) : CtW [(0, 17, 20, 18)] yL_mute cL_mute 5 (some .int) (d2 + 1) mc ms [.ref o, .int a0, .int a1, .ref (o + 125)] n kd I J P (pWv o n kd I J P 0 (0 : Int64) C) := by
  refine ctw_of 1 (by decide +kernel) (Nat.le_of_ble_eq_true rfl) rfl ?_
  refine r_aload_n dL_mute_0 rfl ?_
  refine r_iconst (v := nI 0) dL_mute_1 (by decide) ?_
  refine r_aload_n dL_mute_2 rfl ?_
  refine r_iload_n dL_mute_3 rfl ?_
  refine r_iload_n dL_mute_4 rfl ?_
  refine r_virtC (kc2 := 0) (ks2 := 0) rfl hC lk_L_28 mc_X9_mute dL_mute_5 hk (by omega) rfl rfl (Nat.le_of_ble_eq_true rfl) (by omega) (by omega) (fun E n1 kd1 I1 J1 P1 h => nomatch h.1) (fun y n1 kd1 I1 J1 P1 h => ?_)
  obtain ⟨v1, hc⟩ : ∃ y, pK o n kd I J P (.inl (some (.int (nI 0)))) C y n1 kd1 I1 J1 P1 := ⟨_, h⟩
  cases h.1
  simp only [Option.toList, List.cons_append, List.nil_append]
  have ho1 : kd1 (o + 125) = some (4, 1) := by rw [(h.2.2.2.1 (o + 125) (by omega) (by omega)).1]; exact hout
  refine r_if_eq (tgt := 15) dL_mute_8 (by decide) (fun _ => ?_) (fun hz => absurd (show _ from (by decide)) hz)
  refine r_lconst (v := 0) dL_mute_15 (by decide) ?_
  refine r_last dL_mute_16 ho1 (nI_in8 1 (j := 0) (by decide) (by decide)) (nI_clamp (n := 0) (by decide)) ?_
  refine r_goto (tgt := 24) dL_mute_17 (by decide) ?_
  refine r_iconst (v := nI 0) dL_mute_24 (by decide) ?_
  refine r_iret rfl dL_mute_25 ?_
  exact pWv.ok hT (by rw [am_up_s]) hc

set_option maxHeartbeats 4000000 in
set_option maxRecDepth 100000 in
theorem v_mute_01 (o : Nat) (a0 : Int32) (a1 : Int32) {n : Nat} {kd : mK} {I : mI} {J : mJ} {P : mP} {C : Nat → mK → mI → mJ → mP → Prop} {d2 mc ms : Nat} (hT : Tr o C) (hC : Ct yX9_mute cX9_mute 4 (some .boolean) d2 mc ms [.ref o, .int a0, .int a1] n kd I J P (pK o n kd I J P (.inl (some (.int (nI 1)))) C)) (hk : kd o = some (0, 9)) (hout : kd (o + 125) = some (4, 1)) : CtW [(0, 17, 20, 18)] yL_mute cL_mute 5 (some .int) (d2 + 1) mc ms [.ref o, .int a0, .int a1, .ref (o + 125)] n kd I J P (pWv o n kd I J P 0 (1 : Int64) C) := by
  refine ctw_of 1 (by decide +kernel) (Nat.le_of_ble_eq_true rfl) rfl ?_
  refine r_aload_n dL_mute_0 rfl ?_
  refine r_iconst (v := nI 0) dL_mute_1 (by decide) ?_
  refine r_aload_n dL_mute_2 rfl ?_
  refine r_iload_n dL_mute_3 rfl ?_
  refine r_iload_n dL_mute_4 rfl ?_
  refine r_virtC (kc2 := 0) (ks2 := 0) rfl hC lk_L_28 mc_X9_mute dL_mute_5 hk (by omega) rfl rfl (Nat.le_of_ble_eq_true rfl) (by omega) (by omega) (fun E n1 kd1 I1 J1 P1 h => nomatch h.1) (fun y n1 kd1 I1 J1 P1 h => ?_)
  obtain ⟨v1, hc⟩ : ∃ y, pK o n kd I J P (.inl (some (.int (nI 1)))) C y n1 kd1 I1 J1 P1 := ⟨_, h⟩
  cases h.1
  simp only [Option.toList, List.cons_append, List.nil_append]
  have ho1 : kd1 (o + 125) = some (4, 1) := by rw [(h.2.2.2.1 (o + 125) (by omega) (by omega)).1]; exact hout
  refine r_if_eq (tgt := 15) dL_mute_8 (by decide) (fun hz => absurd hz (show ¬ _ from (by decide))) (fun _ => ?_)
  refine r_lconst (v := 1) dL_mute_11 (by decide) ?_
  refine r_goto (tgt := 16) dL_mute_12 (by decide) ?_
  refine r_last dL_mute_16 ho1 (nI_in8 1 (j := 0) (by decide) (by decide)) (nI_clamp (n := 0) (by decide)) ?_
  refine r_goto (tgt := 24) dL_mute_17 (by decide) ?_
  refine r_iconst (v := nI 0) dL_mute_24 (by decide) ?_
  refine r_iret rfl dL_mute_25 ?_
  exact pWv.ok hT (by rw [am_up_s]) hc

set_option maxHeartbeats 4000000 in
set_option maxRecDepth 100000 in
theorem v_mute_1 (o : Nat) (a0 : Int32) (a1 : Int32) (v : Int64) {n : Nat} {kd : mK} {I : mI} {J : mJ} {P : mP} {C : Nat → mK → mI → mJ → mP → Prop} {d2 mc ms : Nat} (hT : Tr o C) (hC : Ct yX9_mute cX9_mute 4 (some .boolean) d2 mc ms [.ref o, .int a0, .int a1] n kd I J P (pK o n kd I J P (.inr "java/util/NoSuchElementException") C)) (hk : kd o = some (0, 9)) (hout : kd (o + 125) = some (4, 1)) : CtW [(0, 17, 20, 18)] yL_mute cL_mute 5 (some .int) (d2 + 1) mc ms [.ref o, .int a0, .int a1, .ref (o + 125)] n kd I J P (pWv o n kd I J P 1 v C) := by
  refine ctw_of 1 (by decide +kernel) (Nat.le_of_ble_eq_true rfl) rfl ?_
  refine r_aload_n dL_mute_0 rfl ?_
  refine r_iconst (v := nI 0) dL_mute_1 (by decide) ?_
  refine r_aload_n dL_mute_2 rfl ?_
  refine r_iload_n dL_mute_3 rfl ?_
  refine r_iload_n dL_mute_4 rfl ?_
  refine r_virtC (kc2 := 0) (ks2 := 0) rfl hC lk_L_28 mc_X9_mute dL_mute_5 hk (by omega) rfl rfl (Nat.le_of_ble_eq_true rfl) (by omega) (by omega) (fun E n1 kd1 I1 J1 P1 h => ?_) (fun y n1 kd1 I1 J1 P1 h => nomatch h.1)
  have hE : E = "java/util/NoSuchElementException" := Sum.inr.inj h.1
  subst hE
  exact ⟨nI 1, ⟨by decide, [], ⟨0, 17, 20, 18⟩, [], rfl, (fun z hz => nomatch hz), by decide, by decide, cl_L_18, 2, Or.inr ⟨4, dL_mute_20, by decide, rfl⟩, ⟨1, dL_mute_22, rfl⟩, dL_mute_23⟩, pWv.of (by decide) h⟩

theorem dL_letter_0 : decode cL_letter 0 = .ok (.aload_n 3, 1) := by decide +kernel
theorem dL_letter_1 : decode cL_letter 1 = .ok (.iconst 0, 1) := by decide +kernel
theorem dL_letter_2 : decode cL_letter 2 = .ok (.aload_n 0, 1) := by decide +kernel
theorem dL_letter_3 : decode cL_letter 3 = .ok (.iload_n 1, 1) := by decide +kernel
theorem dL_letter_4 : decode cL_letter 4 = .ok (.iload_n 2, 1) := by decide +kernel
theorem dL_letter_5 : decode cL_letter 5 = .ok (.invokevirtual 32, 3) := by decide +kernel
theorem dL_letter_8 : decode cL_letter 8 = .ok (.i2l, 1) := by decide +kernel
theorem dL_letter_9 : decode cL_letter 9 = .ok (.lastore, 1) := by decide +kernel
theorem dL_letter_10 : decode cL_letter 10 = .ok (.goto 7, 3) := by decide +kernel
theorem dL_letter_13 : decode cL_letter 13 = .ok (.astore 4, 2) := by decide +kernel
theorem dL_letter_15 : decode cL_letter 15 = .ok (.iconst 1, 1) := by decide +kernel
theorem dL_letter_16 : decode cL_letter 16 = .ok (.ireturn, 1) := by decide +kernel
theorem dL_letter_17 : decode cL_letter 17 = .ok (.iconst 0, 1) := by decide +kernel
theorem dL_letter_18 : decode cL_letter 18 = .ok (.ireturn, 1) := by decide +kernel

set_option maxHeartbeats 4000000 in
set_option maxRecDepth 100000 in
theorem v_letter_0 (o : Nat) (a0 : Int32) (a1 : Int32) (v : Int32) {n : Nat} {kd : mK} {I : mI} {J : mJ} {P : mP} {C : Nat → mK → mI → mJ → mP → Prop} {d2 mc ms : Nat} (hT : Tr o C) (hC : Ct yX9_letter cX9_letter 3 (some .int) d2 mc ms [.ref o, .int a0, .int a1] n kd I J P (pK o n kd I J P (.inl (some (.int v))) C)) (hk : kd o = some (0, 9)) (hout : kd (o + 125) = some (4, 1)) : CtW [(0, 10, 13, 18)] yL_letter cL_letter 5 (some .int) (d2 + 1) mc ms [.ref o, .int a0, .int a1, .ref (o + 125)] n kd I J P (pWv o n kd I J P 0 v.toInt64 C) := by
  refine ctw_of 1 (by decide +kernel) (Nat.le_of_ble_eq_true rfl) rfl ?_
  refine r_aload_n dL_letter_0 rfl ?_
  refine r_iconst (v := nI 0) dL_letter_1 (by decide) ?_
  refine r_aload_n dL_letter_2 rfl ?_
  refine r_iload_n dL_letter_3 rfl ?_
  refine r_iload_n dL_letter_4 rfl ?_
  refine r_virtC (kc2 := 0) (ks2 := 0) rfl hC lk_L_32 mc_X9_letter dL_letter_5 hk (by omega) rfl rfl (Nat.le_of_ble_eq_true rfl) (by omega) (by omega) (fun E n1 kd1 I1 J1 P1 h => nomatch h.1) (fun y n1 kd1 I1 J1 P1 h => ?_)
  obtain ⟨v1, hc⟩ : ∃ y, pK o n kd I J P (.inl (some (.int v))) C y n1 kd1 I1 J1 P1 := ⟨_, h⟩
  cases h.1
  simp only [Option.toList, List.cons_append, List.nil_append]
  have ho1 : kd1 (o + 125) = some (4, 1) := by rw [(h.2.2.2.1 (o + 125) (by omega) (by omega)).1]; exact hout
  refine r_i2l dL_letter_8 ?_
  refine r_last dL_letter_9 ho1 (nI_in8 1 (j := 0) (by decide) (by decide)) (nI_clamp (n := 0) (by decide)) ?_
  refine r_goto (tgt := 17) dL_letter_10 (by decide) ?_
  refine r_iconst (v := nI 0) dL_letter_17 (by decide) ?_
  refine r_iret rfl dL_letter_18 ?_
  exact pWv.ok hT (by rw [am_up_s]) hc

set_option maxHeartbeats 4000000 in
set_option maxRecDepth 100000 in
theorem v_letter_1 (o : Nat) (a0 : Int32) (a1 : Int32) (v : Int64) {n : Nat} {kd : mK} {I : mI} {J : mJ} {P : mP} {C : Nat → mK → mI → mJ → mP → Prop} {d2 mc ms : Nat} (hT : Tr o C) (hC : Ct yX9_letter cX9_letter 3 (some .int) d2 mc ms [.ref o, .int a0, .int a1] n kd I J P (pK o n kd I J P (.inr "java/util/NoSuchElementException") C)) (hk : kd o = some (0, 9)) (hout : kd (o + 125) = some (4, 1)) : CtW [(0, 10, 13, 18)] yL_letter cL_letter 5 (some .int) (d2 + 1) mc ms [.ref o, .int a0, .int a1, .ref (o + 125)] n kd I J P (pWv o n kd I J P 1 v C) := by
  refine ctw_of 1 (by decide +kernel) (Nat.le_of_ble_eq_true rfl) rfl ?_
  refine r_aload_n dL_letter_0 rfl ?_
  refine r_iconst (v := nI 0) dL_letter_1 (by decide) ?_
  refine r_aload_n dL_letter_2 rfl ?_
  refine r_iload_n dL_letter_3 rfl ?_
  refine r_iload_n dL_letter_4 rfl ?_
  refine r_virtC (kc2 := 0) (ks2 := 0) rfl hC lk_L_32 mc_X9_letter dL_letter_5 hk (by omega) rfl rfl (Nat.le_of_ble_eq_true rfl) (by omega) (by omega) (fun E n1 kd1 I1 J1 P1 h => ?_) (fun y n1 kd1 I1 J1 P1 h => nomatch h.1)
  have hE : E = "java/util/NoSuchElementException" := Sum.inr.inj h.1
  subst hE
  exact ⟨nI 1, ⟨by decide, [], ⟨0, 10, 13, 18⟩, [], rfl, (fun z hz => nomatch hz), by decide, by decide, cl_L_18, 2, Or.inr ⟨4, dL_letter_13, by decide, rfl⟩, ⟨1, dL_letter_15, rfl⟩, dL_letter_16⟩, pWv.of (by decide) h⟩

theorem dL_number_0 : decode cL_number 0 = .ok (.aload_n 3, 1) := by decide +kernel
theorem dL_number_1 : decode cL_number 1 = .ok (.iconst 0, 1) := by decide +kernel
theorem dL_number_2 : decode cL_number 2 = .ok (.aload_n 0, 1) := by decide +kernel
theorem dL_number_3 : decode cL_number 3 = .ok (.iload_n 1, 1) := by decide +kernel
theorem dL_number_4 : decode cL_number 4 = .ok (.iload_n 2, 1) := by decide +kernel
theorem dL_number_5 : decode cL_number 5 = .ok (.invokevirtual 35, 3) := by decide +kernel
theorem dL_number_8 : decode cL_number 8 = .ok (.i2l, 1) := by decide +kernel
theorem dL_number_9 : decode cL_number 9 = .ok (.lastore, 1) := by decide +kernel
theorem dL_number_10 : decode cL_number 10 = .ok (.goto 7, 3) := by decide +kernel
theorem dL_number_13 : decode cL_number 13 = .ok (.astore 4, 2) := by decide +kernel
theorem dL_number_15 : decode cL_number 15 = .ok (.iconst 1, 1) := by decide +kernel
theorem dL_number_16 : decode cL_number 16 = .ok (.ireturn, 1) := by decide +kernel
theorem dL_number_17 : decode cL_number 17 = .ok (.iconst 0, 1) := by decide +kernel
theorem dL_number_18 : decode cL_number 18 = .ok (.ireturn, 1) := by decide +kernel

set_option maxHeartbeats 4000000 in
set_option maxRecDepth 100000 in
theorem v_number_0 (o : Nat) (a0 : Int32) (a1 : Int32) (v : Int32) {n : Nat} {kd : mK} {I : mI} {J : mJ} {P : mP} {C : Nat → mK → mI → mJ → mP → Prop} {d2 mc ms : Nat} (hT : Tr o C) (hC : Ct yX9_number cX9_number 3 (some .int) d2 mc ms [.ref o, .int a0, .int a1] n kd I J P (pK o n kd I J P (.inl (some (.int v))) C)) (hk : kd o = some (0, 9)) (hout : kd (o + 125) = some (4, 1)) : CtW [(0, 10, 13, 18)] yL_number cL_number 5 (some .int) (d2 + 1) mc ms [.ref o, .int a0, .int a1, .ref (o + 125)] n kd I J P (pWv o n kd I J P 0 v.toInt64 C) := by
  refine ctw_of 1 (by decide +kernel) (Nat.le_of_ble_eq_true rfl) rfl ?_
  refine r_aload_n dL_number_0 rfl ?_
  refine r_iconst (v := nI 0) dL_number_1 (by decide) ?_
  refine r_aload_n dL_number_2 rfl ?_
  refine r_iload_n dL_number_3 rfl ?_
  refine r_iload_n dL_number_4 rfl ?_
  refine r_virtC (kc2 := 0) (ks2 := 0) rfl hC lk_L_35 mc_X9_number dL_number_5 hk (by omega) rfl rfl (Nat.le_of_ble_eq_true rfl) (by omega) (by omega) (fun E n1 kd1 I1 J1 P1 h => nomatch h.1) (fun y n1 kd1 I1 J1 P1 h => ?_)
  obtain ⟨v1, hc⟩ : ∃ y, pK o n kd I J P (.inl (some (.int v))) C y n1 kd1 I1 J1 P1 := ⟨_, h⟩
  cases h.1
  simp only [Option.toList, List.cons_append, List.nil_append]
  have ho1 : kd1 (o + 125) = some (4, 1) := by rw [(h.2.2.2.1 (o + 125) (by omega) (by omega)).1]; exact hout
  refine r_i2l dL_number_8 ?_
  refine r_last dL_number_9 ho1 (nI_in8 1 (j := 0) (by decide) (by decide)) (nI_clamp (n := 0) (by decide)) ?_
  refine r_goto (tgt := 17) dL_number_10 (by decide) ?_
  refine r_iconst (v := nI 0) dL_number_17 (by decide) ?_
  refine r_iret rfl dL_number_18 ?_
  exact pWv.ok hT (by rw [am_up_s]) hc

set_option maxHeartbeats 4000000 in
set_option maxRecDepth 100000 in
theorem v_number_1 (o : Nat) (a0 : Int32) (a1 : Int32) (v : Int64) {n : Nat} {kd : mK} {I : mI} {J : mJ} {P : mP} {C : Nat → mK → mI → mJ → mP → Prop} {d2 mc ms : Nat} (hT : Tr o C) (hC : Ct yX9_number cX9_number 3 (some .int) d2 mc ms [.ref o, .int a0, .int a1] n kd I J P (pK o n kd I J P (.inr "java/util/NoSuchElementException") C)) (hk : kd o = some (0, 9)) (hout : kd (o + 125) = some (4, 1)) : CtW [(0, 10, 13, 18)] yL_number cL_number 5 (some .int) (d2 + 1) mc ms [.ref o, .int a0, .int a1, .ref (o + 125)] n kd I J P (pWv o n kd I J P 1 v C) := by
  refine ctw_of 1 (by decide +kernel) (Nat.le_of_ble_eq_true rfl) rfl ?_
  refine r_aload_n dL_number_0 rfl ?_
  refine r_iconst (v := nI 0) dL_number_1 (by decide) ?_
  refine r_aload_n dL_number_2 rfl ?_
  refine r_iload_n dL_number_3 rfl ?_
  refine r_iload_n dL_number_4 rfl ?_
  refine r_virtC (kc2 := 0) (ks2 := 0) rfl hC lk_L_35 mc_X9_number dL_number_5 hk (by omega) rfl rfl (Nat.le_of_ble_eq_true rfl) (by omega) (by omega) (fun E n1 kd1 I1 J1 P1 h => ?_) (fun y n1 kd1 I1 J1 P1 h => nomatch h.1)
  have hE : E = "java/util/NoSuchElementException" := Sum.inr.inj h.1
  subst hE
  exact ⟨nI 1, ⟨by decide, [], ⟨0, 10, 13, 18⟩, [], rfl, (fun z hz => nomatch hz), by decide, by decide, cl_L_18, 2, Or.inr ⟨4, dL_number_13, by decide, rfl⟩, ⟨1, dL_number_15, rfl⟩, dL_number_16⟩, pWv.of (by decide) h⟩

theorem dL_may_0 : decode cL_may 0 = .ok (.aload_n 2, 1) := by decide +kernel
theorem dL_may_1 : decode cL_may 1 = .ok (.iconst 0, 1) := by decide +kernel
theorem dL_may_2 : decode cL_may 2 = .ok (.aload_n 0, 1) := by decide +kernel
theorem dL_may_3 : decode cL_may 3 = .ok (.iload_n 1, 1) := by decide +kernel
theorem dL_may_4 : decode cL_may 4 = .ok (.invokevirtual 38, 3) := by decide +kernel
theorem dL_may_7 : decode cL_may 7 = .ok (.i2l, 1) := by decide +kernel
theorem dL_may_8 : decode cL_may 8 = .ok (.lastore, 1) := by decide +kernel
theorem dL_may_9 : decode cL_may 9 = .ok (.goto 6, 3) := by decide +kernel
theorem dL_may_12 : decode cL_may 12 = .ok (.astore_n 3, 1) := by decide +kernel
theorem dL_may_13 : decode cL_may 13 = .ok (.iconst 1, 1) := by decide +kernel
theorem dL_may_14 : decode cL_may 14 = .ok (.ireturn, 1) := by decide +kernel
theorem dL_may_15 : decode cL_may 15 = .ok (.iconst 0, 1) := by decide +kernel
theorem dL_may_16 : decode cL_may 16 = .ok (.ireturn, 1) := by decide +kernel

set_option maxHeartbeats 4000000 in
set_option maxRecDepth 100000 in
theorem v_may_0 (o : Nat) (a0 : Int32) (v : Int32) {n : Nat} {kd : mK} {I : mI} {J : mJ} {P : mP} {C : Nat → mK → mI → mJ → mP → Prop} {d2 mc ms : Nat} (hT : Tr o C) (hC : Ct yX9_may cX9_may 2 (some .int) d2 mc ms [.ref o, .int a0] n kd I J P (pK o n kd I J P (.inl (some (.int v))) C)) (hk : kd o = some (0, 9)) (hout : kd (o + 125) = some (4, 1)) : CtW [(0, 9, 12, 18)] yL_may cL_may 4 (some .int) (d2 + 1) mc ms [.ref o, .int a0, .ref (o + 125)] n kd I J P (pWv o n kd I J P 0 v.toInt64 C) := by
  refine ctw_of 1 (by decide +kernel) (Nat.le_of_ble_eq_true rfl) rfl ?_
  refine r_aload_n dL_may_0 rfl ?_
  refine r_iconst (v := nI 0) dL_may_1 (by decide) ?_
  refine r_aload_n dL_may_2 rfl ?_
  refine r_iload_n dL_may_3 rfl ?_
  refine r_virtC (kc2 := 0) (ks2 := 0) rfl hC lk_L_38 mc_X9_may dL_may_4 hk (by omega) rfl rfl (Nat.le_of_ble_eq_true rfl) (by omega) (by omega) (fun E n1 kd1 I1 J1 P1 h => nomatch h.1) (fun y n1 kd1 I1 J1 P1 h => ?_)
  obtain ⟨v1, hc⟩ : ∃ y, pK o n kd I J P (.inl (some (.int v))) C y n1 kd1 I1 J1 P1 := ⟨_, h⟩
  cases h.1
  simp only [Option.toList, List.cons_append, List.nil_append]
  have ho1 : kd1 (o + 125) = some (4, 1) := by rw [(h.2.2.2.1 (o + 125) (by omega) (by omega)).1]; exact hout
  refine r_i2l dL_may_7 ?_
  refine r_last dL_may_8 ho1 (nI_in8 1 (j := 0) (by decide) (by decide)) (nI_clamp (n := 0) (by decide)) ?_
  refine r_goto (tgt := 15) dL_may_9 (by decide) ?_
  refine r_iconst (v := nI 0) dL_may_15 (by decide) ?_
  refine r_iret rfl dL_may_16 ?_
  exact pWv.ok hT (by rw [am_up_s]) hc

set_option maxHeartbeats 4000000 in
set_option maxRecDepth 100000 in
theorem v_may_1 (o : Nat) (a0 : Int32) (v : Int64) {n : Nat} {kd : mK} {I : mI} {J : mJ} {P : mP} {C : Nat → mK → mI → mJ → mP → Prop} {d2 mc ms : Nat} (hT : Tr o C) (hC : Ct yX9_may cX9_may 2 (some .int) d2 mc ms [.ref o, .int a0] n kd I J P (pK o n kd I J P (.inr "java/util/NoSuchElementException") C)) (hk : kd o = some (0, 9)) (hout : kd (o + 125) = some (4, 1)) : CtW [(0, 9, 12, 18)] yL_may cL_may 4 (some .int) (d2 + 1) mc ms [.ref o, .int a0, .ref (o + 125)] n kd I J P (pWv o n kd I J P 1 v C) := by
  refine ctw_of 1 (by decide +kernel) (Nat.le_of_ble_eq_true rfl) rfl ?_
  refine r_aload_n dL_may_0 rfl ?_
  refine r_iconst (v := nI 0) dL_may_1 (by decide) ?_
  refine r_aload_n dL_may_2 rfl ?_
  refine r_iload_n dL_may_3 rfl ?_
  refine r_virtC (kc2 := 0) (ks2 := 0) rfl hC lk_L_38 mc_X9_may dL_may_4 hk (by omega) rfl rfl (Nat.le_of_ble_eq_true rfl) (by omega) (by omega) (fun E n1 kd1 I1 J1 P1 h => ?_) (fun y n1 kd1 I1 J1 P1 h => nomatch h.1)
  have hE : E = "java/util/NoSuchElementException" := Sum.inr.inj h.1
  subst hE
  exact ⟨nI 1, ⟨by decide, [], ⟨0, 9, 12, 18⟩, [], rfl, (fun z hz => nomatch hz), by decide, by decide, cl_L_18, 1, Or.inl ⟨3, dL_may_12, by decide, rfl⟩, ⟨1, dL_may_13, rfl⟩, dL_may_14⟩, pWv.of (by decide) h⟩

theorem dL_holds_0 : decode cL_holds 0 = .ok (.aload 4, 2) := by decide +kernel
theorem dL_holds_2 : decode cL_holds 2 = .ok (.iconst 0, 1) := by decide +kernel
theorem dL_holds_3 : decode cL_holds 3 = .ok (.aload_n 0, 1) := by decide +kernel
theorem dL_holds_4 : decode cL_holds 4 = .ok (.iload_n 1, 1) := by decide +kernel
theorem dL_holds_5 : decode cL_holds 5 = .ok (.lload_n 2, 1) := by decide +kernel
theorem dL_holds_6 : decode cL_holds 6 = .ok (.invokevirtual 41, 3) := by decide +kernel
theorem dL_holds_9 : decode cL_holds 9 = .ok (.i2l, 1) := by decide +kernel
theorem dL_holds_10 : decode cL_holds 10 = .ok (.lastore, 1) := by decide +kernel
theorem dL_holds_11 : decode cL_holds 11 = .ok (.goto 11, 3) := by decide +kernel
theorem dL_holds_14 : decode cL_holds 14 = .ok (.astore 5, 2) := by decide +kernel
theorem dL_holds_16 : decode cL_holds 16 = .ok (.iconst 1, 1) := by decide +kernel
theorem dL_holds_17 : decode cL_holds 17 = .ok (.ireturn, 1) := by decide +kernel
theorem dL_holds_18 : decode cL_holds 18 = .ok (.astore 5, 2) := by decide +kernel
theorem dL_holds_20 : decode cL_holds 20 = .ok (.iconst 2, 1) := by decide +kernel
theorem dL_holds_21 : decode cL_holds 21 = .ok (.ireturn, 1) := by decide +kernel
theorem dL_holds_22 : decode cL_holds 22 = .ok (.iconst 0, 1) := by decide +kernel
theorem dL_holds_23 : decode cL_holds 23 = .ok (.ireturn, 1) := by decide +kernel

set_option maxHeartbeats 4000000 in
set_option maxRecDepth 100000 in
theorem v_holds_0 (o : Nat) (a0 : Int32) (a1 : Int64) (v : Int32) {n : Nat} {kd : mK} {I : mI} {J : mJ} {P : mP} {C : Nat → mK → mI → mJ → mP → Prop} {d2 mc ms : Nat} (hT : Tr o C) (hC : Ct yX9_holds cX9_holds 4 (some .int) d2 mc ms [.ref o, .int a0, .long a1] n kd I J P (pK o n kd I J P (.inl (some (.int v))) C)) (hk : kd o = some (0, 9)) (hout : kd (o + 125) = some (4, 1)) : CtW [(0, 11, 14, 18), (0, 11, 18, 13)] yL_holds cL_holds 6 (some .int) (d2 + 1) mc ms [.ref o, .int a0, .long a1, .ref (o + 125)] n kd I J P (pWv o n kd I J P 0 v.toInt64 C) := by
  refine ctw_of 1 (by decide +kernel) (Nat.le_of_ble_eq_true rfl) rfl ?_
  refine r_aload dL_holds_0 rfl ?_
  refine r_iconst (v := nI 0) dL_holds_2 (by decide) ?_
  refine r_aload_n dL_holds_3 rfl ?_
  refine r_iload_n dL_holds_4 rfl ?_
  refine r_lload_n dL_holds_5 rfl ?_
  refine r_virtC (kc2 := 0) (ks2 := 0) rfl hC lk_L_41 mc_X9_holds dL_holds_6 hk (by omega) rfl rfl (Nat.le_of_ble_eq_true rfl) (by omega) (by omega) (fun E n1 kd1 I1 J1 P1 h => nomatch h.1) (fun y n1 kd1 I1 J1 P1 h => ?_)
  obtain ⟨v1, hc⟩ : ∃ y, pK o n kd I J P (.inl (some (.int v))) C y n1 kd1 I1 J1 P1 := ⟨_, h⟩
  cases h.1
  simp only [Option.toList, List.cons_append, List.nil_append]
  have ho1 : kd1 (o + 125) = some (4, 1) := by rw [(h.2.2.2.1 (o + 125) (by omega) (by omega)).1]; exact hout
  refine r_i2l dL_holds_9 ?_
  refine r_last dL_holds_10 ho1 (nI_in8 1 (j := 0) (by decide) (by decide)) (nI_clamp (n := 0) (by decide)) ?_
  refine r_goto (tgt := 22) dL_holds_11 (by decide) ?_
  refine r_iconst (v := nI 0) dL_holds_22 (by decide) ?_
  refine r_iret rfl dL_holds_23 ?_
  exact pWv.ok hT (by rw [am_up_s]) hc

set_option maxHeartbeats 4000000 in
set_option maxRecDepth 100000 in
theorem v_holds_1 (o : Nat) (a0 : Int32) (a1 : Int64) (v : Int64) {n : Nat} {kd : mK} {I : mI} {J : mJ} {P : mP} {C : Nat → mK → mI → mJ → mP → Prop} {d2 mc ms : Nat} (hT : Tr o C) (hC : Ct yX9_holds cX9_holds 4 (some .int) d2 mc ms [.ref o, .int a0, .long a1] n kd I J P (pK o n kd I J P (.inr "java/util/NoSuchElementException") C)) (hk : kd o = some (0, 9)) (hout : kd (o + 125) = some (4, 1)) : CtW [(0, 11, 14, 18), (0, 11, 18, 13)] yL_holds cL_holds 6 (some .int) (d2 + 1) mc ms [.ref o, .int a0, .long a1, .ref (o + 125)] n kd I J P (pWv o n kd I J P 1 v C) := by
  refine ctw_of 1 (by decide +kernel) (Nat.le_of_ble_eq_true rfl) rfl ?_
  refine r_aload dL_holds_0 rfl ?_
  refine r_iconst (v := nI 0) dL_holds_2 (by decide) ?_
  refine r_aload_n dL_holds_3 rfl ?_
  refine r_iload_n dL_holds_4 rfl ?_
  refine r_lload_n dL_holds_5 rfl ?_
  refine r_virtC (kc2 := 0) (ks2 := 0) rfl hC lk_L_41 mc_X9_holds dL_holds_6 hk (by omega) rfl rfl (Nat.le_of_ble_eq_true rfl) (by omega) (by omega) (fun E n1 kd1 I1 J1 P1 h => ?_) (fun y n1 kd1 I1 J1 P1 h => nomatch h.1)
  have hE : E = "java/util/NoSuchElementException" := Sum.inr.inj h.1
  subst hE
  exact ⟨nI 1, ⟨by decide, [], ⟨0, 11, 14, 18⟩, [⟨0, 11, 18, 13⟩], rfl, (fun z hz => nomatch hz), by decide, by decide, cl_L_18, 2, Or.inr ⟨5, dL_holds_14, by decide, rfl⟩, ⟨1, dL_holds_16, rfl⟩, dL_holds_17⟩, pWv.of (by decide) h⟩

set_option maxHeartbeats 4000000 in
set_option maxRecDepth 100000 in
theorem v_holds_2 (o : Nat) (a0 : Int32) (a1 : Int64) (v : Int64) {n : Nat} {kd : mK} {I : mI} {J : mJ} {P : mP} {C : Nat → mK → mI → mJ → mP → Prop} {d2 mc ms : Nat} (hT : Tr o C) (hC : Ct yX9_holds cX9_holds 4 (some .int) d2 mc ms [.ref o, .int a0, .long a1] n kd I J P (pK o n kd I J P (.inr "java/lang/IllegalArgumentException") C)) (hk : kd o = some (0, 9)) (hout : kd (o + 125) = some (4, 1)) : CtW [(0, 11, 14, 18), (0, 11, 18, 13)] yL_holds cL_holds 6 (some .int) (d2 + 1) mc ms [.ref o, .int a0, .long a1, .ref (o + 125)] n kd I J P (pWv o n kd I J P 2 v C) := by
  refine ctw_of 1 (by decide +kernel) (Nat.le_of_ble_eq_true rfl) rfl ?_
  refine r_aload dL_holds_0 rfl ?_
  refine r_iconst (v := nI 0) dL_holds_2 (by decide) ?_
  refine r_aload_n dL_holds_3 rfl ?_
  refine r_iload_n dL_holds_4 rfl ?_
  refine r_lload_n dL_holds_5 rfl ?_
  refine r_virtC (kc2 := 0) (ks2 := 0) rfl hC lk_L_41 mc_X9_holds dL_holds_6 hk (by omega) rfl rfl (Nat.le_of_ble_eq_true rfl) (by omega) (by omega) (fun E n1 kd1 I1 J1 P1 h => ?_) (fun y n1 kd1 I1 J1 P1 h => nomatch h.1)
  have hE : E = "java/lang/IllegalArgumentException" := Sum.inr.inj h.1
  subst hE
  exact ⟨nI 2, ⟨by decide, [⟨0, 11, 14, 18⟩], ⟨0, 11, 18, 13⟩, [], rfl, (fun z hz => by rcases List.mem_cons.mp hz with e | e; subst e; exact ⟨by decide, rfl, cl_L_18⟩; exact nomatch e), by decide, by decide, cl_L_13, 2, Or.inr ⟨5, dL_holds_18, by decide, rfl⟩, ⟨2, dL_holds_20, rfl⟩, dL_holds_21⟩, pWv.of (by decide) h⟩

theorem dL_looks_0 : decode cL_looks 0 = .ok (.aload_n 2, 1) := by decide +kernel
theorem dL_looks_1 : decode cL_looks 1 = .ok (.iconst 0, 1) := by decide +kernel
theorem dL_looks_2 : decode cL_looks 2 = .ok (.aload_n 0, 1) := by decide +kernel
theorem dL_looks_3 : decode cL_looks 3 = .ok (.iload_n 1, 1) := by decide +kernel
theorem dL_looks_4 : decode cL_looks 4 = .ok (.invokevirtual 45, 3) := by decide +kernel
theorem dL_looks_7 : decode cL_looks 7 = .ok (.i2l, 1) := by decide +kernel
theorem dL_looks_8 : decode cL_looks 8 = .ok (.lastore, 1) := by decide +kernel
theorem dL_looks_9 : decode cL_looks 9 = .ok (.goto 6, 3) := by decide +kernel
theorem dL_looks_12 : decode cL_looks 12 = .ok (.astore_n 3, 1) := by decide +kernel
theorem dL_looks_13 : decode cL_looks 13 = .ok (.iconst 1, 1) := by decide +kernel
theorem dL_looks_14 : decode cL_looks 14 = .ok (.ireturn, 1) := by decide +kernel
theorem dL_looks_15 : decode cL_looks 15 = .ok (.iconst 0, 1) := by decide +kernel
theorem dL_looks_16 : decode cL_looks 16 = .ok (.ireturn, 1) := by decide +kernel

set_option maxHeartbeats 4000000 in
set_option maxRecDepth 100000 in
theorem v_looks_0 (o : Nat) (a0 : Int32) (v : Int32) {n : Nat} {kd : mK} {I : mI} {J : mJ} {P : mP} {C : Nat → mK → mI → mJ → mP → Prop} {d2 mc ms : Nat} (hT : Tr o C) (hC : Ct yX9_looks cX9_looks 3 (some .int) d2 mc ms [.ref o, .int a0] n kd I J P (pK o n kd I J P (.inl (some (.int v))) C)) (hk : kd o = some (0, 9)) (hout : kd (o + 125) = some (4, 1)) : CtW [(0, 9, 12, 18)] yL_looks cL_looks 4 (some .int) (d2 + 1) mc ms [.ref o, .int a0, .ref (o + 125)] n kd I J P (pWv o n kd I J P 0 v.toInt64 C) := by
  refine ctw_of 1 (by decide +kernel) (Nat.le_of_ble_eq_true rfl) rfl ?_
  refine r_aload_n dL_looks_0 rfl ?_
  refine r_iconst (v := nI 0) dL_looks_1 (by decide) ?_
  refine r_aload_n dL_looks_2 rfl ?_
  refine r_iload_n dL_looks_3 rfl ?_
  refine r_virtC (kc2 := 0) (ks2 := 0) rfl hC lk_L_45 mc_X9_looks dL_looks_4 hk (by omega) rfl rfl (Nat.le_of_ble_eq_true rfl) (by omega) (by omega) (fun E n1 kd1 I1 J1 P1 h => nomatch h.1) (fun y n1 kd1 I1 J1 P1 h => ?_)
  obtain ⟨v1, hc⟩ : ∃ y, pK o n kd I J P (.inl (some (.int v))) C y n1 kd1 I1 J1 P1 := ⟨_, h⟩
  cases h.1
  simp only [Option.toList, List.cons_append, List.nil_append]
  have ho1 : kd1 (o + 125) = some (4, 1) := by rw [(h.2.2.2.1 (o + 125) (by omega) (by omega)).1]; exact hout
  refine r_i2l dL_looks_7 ?_
  refine r_last dL_looks_8 ho1 (nI_in8 1 (j := 0) (by decide) (by decide)) (nI_clamp (n := 0) (by decide)) ?_
  refine r_goto (tgt := 15) dL_looks_9 (by decide) ?_
  refine r_iconst (v := nI 0) dL_looks_15 (by decide) ?_
  refine r_iret rfl dL_looks_16 ?_
  exact pWv.ok hT (by rw [am_up_s]) hc

set_option maxHeartbeats 4000000 in
set_option maxRecDepth 100000 in
theorem v_looks_1 (o : Nat) (a0 : Int32) (v : Int64) {n : Nat} {kd : mK} {I : mI} {J : mJ} {P : mP} {C : Nat → mK → mI → mJ → mP → Prop} {d2 mc ms : Nat} (hT : Tr o C) (hC : Ct yX9_looks cX9_looks 3 (some .int) d2 mc ms [.ref o, .int a0] n kd I J P (pK o n kd I J P (.inr "java/util/NoSuchElementException") C)) (hk : kd o = some (0, 9)) (hout : kd (o + 125) = some (4, 1)) : CtW [(0, 9, 12, 18)] yL_looks cL_looks 4 (some .int) (d2 + 1) mc ms [.ref o, .int a0, .ref (o + 125)] n kd I J P (pWv o n kd I J P 1 v C) := by
  refine ctw_of 1 (by decide +kernel) (Nat.le_of_ble_eq_true rfl) rfl ?_
  refine r_aload_n dL_looks_0 rfl ?_
  refine r_iconst (v := nI 0) dL_looks_1 (by decide) ?_
  refine r_aload_n dL_looks_2 rfl ?_
  refine r_iload_n dL_looks_3 rfl ?_
  refine r_virtC (kc2 := 0) (ks2 := 0) rfl hC lk_L_45 mc_X9_looks dL_looks_4 hk (by omega) rfl rfl (Nat.le_of_ble_eq_true rfl) (by omega) (by omega) (fun E n1 kd1 I1 J1 P1 h => ?_) (fun y n1 kd1 I1 J1 P1 h => nomatch h.1)
  have hE : E = "java/util/NoSuchElementException" := Sum.inr.inj h.1
  subst hE
  exact ⟨nI 1, ⟨by decide, [], ⟨0, 9, 12, 18⟩, [], rfl, (fun z hz => nomatch hz), by decide, by decide, cl_L_18, 1, Or.inl ⟨3, dL_looks_12, by decide, rfl⟩, ⟨1, dL_looks_13, rfl⟩, dL_looks_14⟩, pWv.of (by decide) h⟩

theorem dL_hints_0 : decode cL_hints 0 = .ok (.aload_n 2, 1) := by decide +kernel
theorem dL_hints_1 : decode cL_hints 1 = .ok (.iconst 0, 1) := by decide +kernel
theorem dL_hints_2 : decode cL_hints 2 = .ok (.aload_n 0, 1) := by decide +kernel
theorem dL_hints_3 : decode cL_hints 3 = .ok (.iload_n 1, 1) := by decide +kernel
theorem dL_hints_4 : decode cL_hints 4 = .ok (.invokevirtual 48, 3) := by decide +kernel
theorem dL_hints_7 : decode cL_hints 7 = .ok (.i2l, 1) := by decide +kernel
theorem dL_hints_8 : decode cL_hints 8 = .ok (.lastore, 1) := by decide +kernel
theorem dL_hints_9 : decode cL_hints 9 = .ok (.goto 6, 3) := by decide +kernel
theorem dL_hints_12 : decode cL_hints 12 = .ok (.astore_n 3, 1) := by decide +kernel
theorem dL_hints_13 : decode cL_hints 13 = .ok (.iconst 1, 1) := by decide +kernel
theorem dL_hints_14 : decode cL_hints 14 = .ok (.ireturn, 1) := by decide +kernel
theorem dL_hints_15 : decode cL_hints 15 = .ok (.iconst 0, 1) := by decide +kernel
theorem dL_hints_16 : decode cL_hints 16 = .ok (.ireturn, 1) := by decide +kernel

set_option maxHeartbeats 4000000 in
set_option maxRecDepth 100000 in
theorem v_hints_0 (o : Nat) (a0 : Int32) (v : Int32) {n : Nat} {kd : mK} {I : mI} {J : mJ} {P : mP} {C : Nat → mK → mI → mJ → mP → Prop} {d2 mc ms : Nat} (hT : Tr o C) (hC : Ct yX9_hints cX9_hints 2 (some .int) d2 mc ms [.ref o, .int a0] n kd I J P (pK o n kd I J P (.inl (some (.int v))) C)) (hk : kd o = some (0, 9)) (hout : kd (o + 125) = some (4, 1)) : CtW [(0, 9, 12, 18)] yL_hints cL_hints 4 (some .int) (d2 + 1) mc ms [.ref o, .int a0, .ref (o + 125)] n kd I J P (pWv o n kd I J P 0 v.toInt64 C) := by
  refine ctw_of 1 (by decide +kernel) (Nat.le_of_ble_eq_true rfl) rfl ?_
  refine r_aload_n dL_hints_0 rfl ?_
  refine r_iconst (v := nI 0) dL_hints_1 (by decide) ?_
  refine r_aload_n dL_hints_2 rfl ?_
  refine r_iload_n dL_hints_3 rfl ?_
  refine r_virtC (kc2 := 0) (ks2 := 0) rfl hC lk_L_48 mc_X9_hints dL_hints_4 hk (by omega) rfl rfl (Nat.le_of_ble_eq_true rfl) (by omega) (by omega) (fun E n1 kd1 I1 J1 P1 h => nomatch h.1) (fun y n1 kd1 I1 J1 P1 h => ?_)
  obtain ⟨v1, hc⟩ : ∃ y, pK o n kd I J P (.inl (some (.int v))) C y n1 kd1 I1 J1 P1 := ⟨_, h⟩
  cases h.1
  simp only [Option.toList, List.cons_append, List.nil_append]
  have ho1 : kd1 (o + 125) = some (4, 1) := by rw [(h.2.2.2.1 (o + 125) (by omega) (by omega)).1]; exact hout
  refine r_i2l dL_hints_7 ?_
  refine r_last dL_hints_8 ho1 (nI_in8 1 (j := 0) (by decide) (by decide)) (nI_clamp (n := 0) (by decide)) ?_
  refine r_goto (tgt := 15) dL_hints_9 (by decide) ?_
  refine r_iconst (v := nI 0) dL_hints_15 (by decide) ?_
  refine r_iret rfl dL_hints_16 ?_
  exact pWv.ok hT (by rw [am_up_s]) hc

set_option maxHeartbeats 4000000 in
set_option maxRecDepth 100000 in
theorem v_hints_1 (o : Nat) (a0 : Int32) (v : Int64) {n : Nat} {kd : mK} {I : mI} {J : mJ} {P : mP} {C : Nat → mK → mI → mJ → mP → Prop} {d2 mc ms : Nat} (hT : Tr o C) (hC : Ct yX9_hints cX9_hints 2 (some .int) d2 mc ms [.ref o, .int a0] n kd I J P (pK o n kd I J P (.inr "java/util/NoSuchElementException") C)) (hk : kd o = some (0, 9)) (hout : kd (o + 125) = some (4, 1)) : CtW [(0, 9, 12, 18)] yL_hints cL_hints 4 (some .int) (d2 + 1) mc ms [.ref o, .int a0, .ref (o + 125)] n kd I J P (pWv o n kd I J P 1 v C) := by
  refine ctw_of 1 (by decide +kernel) (Nat.le_of_ble_eq_true rfl) rfl ?_
  refine r_aload_n dL_hints_0 rfl ?_
  refine r_iconst (v := nI 0) dL_hints_1 (by decide) ?_
  refine r_aload_n dL_hints_2 rfl ?_
  refine r_iload_n dL_hints_3 rfl ?_
  refine r_virtC (kc2 := 0) (ks2 := 0) rfl hC lk_L_48 mc_X9_hints dL_hints_4 hk (by omega) rfl rfl (Nat.le_of_ble_eq_true rfl) (by omega) (by omega) (fun E n1 kd1 I1 J1 P1 h => ?_) (fun y n1 kd1 I1 J1 P1 h => nomatch h.1)
  have hE : E = "java/util/NoSuchElementException" := Sum.inr.inj h.1
  subst hE
  exact ⟨nI 1, ⟨by decide, [], ⟨0, 9, 12, 18⟩, [], rfl, (fun z hz => nomatch hz), by decide, by decide, cl_L_18, 1, Or.inl ⟨3, dL_hints_12, by decide, rfl⟩, ⟨1, dL_hints_13, rfl⟩, dL_hints_14⟩, pWv.of (by decide) h⟩

theorem dL_post_0 : decode cL_post 0 = .ok (.aload_n 3, 1) := by decide +kernel
theorem dL_post_1 : decode cL_post 1 = .ok (.iconst 0, 1) := by decide +kernel
theorem dL_post_2 : decode cL_post 2 = .ok (.aload_n 0, 1) := by decide +kernel
theorem dL_post_3 : decode cL_post 3 = .ok (.iload_n 1, 1) := by decide +kernel
theorem dL_post_4 : decode cL_post 4 = .ok (.iload_n 2, 1) := by decide +kernel
theorem dL_post_5 : decode cL_post 5 = .ok (.invokevirtual 51, 3) := by decide +kernel
theorem dL_post_8 : decode cL_post 8 = .ok (.i2l, 1) := by decide +kernel
theorem dL_post_9 : decode cL_post 9 = .ok (.lastore, 1) := by decide +kernel
theorem dL_post_10 : decode cL_post 10 = .ok (.goto 11, 3) := by decide +kernel
theorem dL_post_13 : decode cL_post 13 = .ok (.astore 4, 2) := by decide +kernel
theorem dL_post_15 : decode cL_post 15 = .ok (.iconst 1, 1) := by decide +kernel
theorem dL_post_16 : decode cL_post 16 = .ok (.ireturn, 1) := by decide +kernel
theorem dL_post_17 : decode cL_post 17 = .ok (.astore 4, 2) := by decide +kernel
theorem dL_post_19 : decode cL_post 19 = .ok (.iconst 2, 1) := by decide +kernel
theorem dL_post_20 : decode cL_post 20 = .ok (.ireturn, 1) := by decide +kernel
theorem dL_post_21 : decode cL_post 21 = .ok (.iconst 0, 1) := by decide +kernel
theorem dL_post_22 : decode cL_post 22 = .ok (.ireturn, 1) := by decide +kernel

set_option maxHeartbeats 4000000 in
set_option maxRecDepth 100000 in
theorem v_post_0 (o : Nat) (a0 : Int32) (a1 : Int32) (v : Int32) {n : Nat} {kd : mK} {I : mI} {J : mJ} {P : mP} {C : Nat → mK → mI → mJ → mP → Prop} {d2 mc ms : Nat} (hT : Tr o C) (hC : Ct yX9_post cX9_post 6 (some .int) d2 mc ms [.ref o, .int a0, .int a1] n kd I J P (pK o n kd I J P (.inl (some (.int v))) C)) (hk : kd o = some (0, 9)) (hout : kd (o + 125) = some (4, 1)) : CtW [(0, 10, 13, 18), (0, 10, 17, 13)] yL_post cL_post 5 (some .int) (d2 + 1) mc ms [.ref o, .int a0, .int a1, .ref (o + 125)] n kd I J P (pWv o n kd I J P 0 v.toInt64 C) := by
  refine ctw_of 1 (by decide +kernel) (Nat.le_of_ble_eq_true rfl) rfl ?_
  refine r_aload_n dL_post_0 rfl ?_
  refine r_iconst (v := nI 0) dL_post_1 (by decide) ?_
  refine r_aload_n dL_post_2 rfl ?_
  refine r_iload_n dL_post_3 rfl ?_
  refine r_iload_n dL_post_4 rfl ?_
  refine r_virtC (kc2 := 0) (ks2 := 0) rfl hC lk_L_51 mc_X9_post dL_post_5 hk (by omega) rfl rfl (Nat.le_of_ble_eq_true rfl) (by omega) (by omega) (fun E n1 kd1 I1 J1 P1 h => nomatch h.1) (fun y n1 kd1 I1 J1 P1 h => ?_)
  obtain ⟨v1, hc⟩ : ∃ y, pK o n kd I J P (.inl (some (.int v))) C y n1 kd1 I1 J1 P1 := ⟨_, h⟩
  cases h.1
  simp only [Option.toList, List.cons_append, List.nil_append]
  have ho1 : kd1 (o + 125) = some (4, 1) := by rw [(h.2.2.2.1 (o + 125) (by omega) (by omega)).1]; exact hout
  refine r_i2l dL_post_8 ?_
  refine r_last dL_post_9 ho1 (nI_in8 1 (j := 0) (by decide) (by decide)) (nI_clamp (n := 0) (by decide)) ?_
  refine r_goto (tgt := 21) dL_post_10 (by decide) ?_
  refine r_iconst (v := nI 0) dL_post_21 (by decide) ?_
  refine r_iret rfl dL_post_22 ?_
  exact pWv.ok hT (by rw [am_up_s]) hc

set_option maxHeartbeats 4000000 in
set_option maxRecDepth 100000 in
theorem v_post_1 (o : Nat) (a0 : Int32) (a1 : Int32) (v : Int64) {n : Nat} {kd : mK} {I : mI} {J : mJ} {P : mP} {C : Nat → mK → mI → mJ → mP → Prop} {d2 mc ms : Nat} (hT : Tr o C) (hC : Ct yX9_post cX9_post 6 (some .int) d2 mc ms [.ref o, .int a0, .int a1] n kd I J P (pK o n kd I J P (.inr "java/util/NoSuchElementException") C)) (hk : kd o = some (0, 9)) (hout : kd (o + 125) = some (4, 1)) : CtW [(0, 10, 13, 18), (0, 10, 17, 13)] yL_post cL_post 5 (some .int) (d2 + 1) mc ms [.ref o, .int a0, .int a1, .ref (o + 125)] n kd I J P (pWv o n kd I J P 1 v C) := by
  refine ctw_of 1 (by decide +kernel) (Nat.le_of_ble_eq_true rfl) rfl ?_
  refine r_aload_n dL_post_0 rfl ?_
  refine r_iconst (v := nI 0) dL_post_1 (by decide) ?_
  refine r_aload_n dL_post_2 rfl ?_
  refine r_iload_n dL_post_3 rfl ?_
  refine r_iload_n dL_post_4 rfl ?_
  refine r_virtC (kc2 := 0) (ks2 := 0) rfl hC lk_L_51 mc_X9_post dL_post_5 hk (by omega) rfl rfl (Nat.le_of_ble_eq_true rfl) (by omega) (by omega) (fun E n1 kd1 I1 J1 P1 h => ?_) (fun y n1 kd1 I1 J1 P1 h => nomatch h.1)
  have hE : E = "java/util/NoSuchElementException" := Sum.inr.inj h.1
  subst hE
  exact ⟨nI 1, ⟨by decide, [], ⟨0, 10, 13, 18⟩, [⟨0, 10, 17, 13⟩], rfl, (fun z hz => nomatch hz), by decide, by decide, cl_L_18, 2, Or.inr ⟨4, dL_post_13, by decide, rfl⟩, ⟨1, dL_post_15, rfl⟩, dL_post_16⟩, pWv.of (by decide) h⟩

set_option maxHeartbeats 4000000 in
set_option maxRecDepth 100000 in
theorem v_post_2 (o : Nat) (a0 : Int32) (a1 : Int32) (v : Int64) {n : Nat} {kd : mK} {I : mI} {J : mJ} {P : mP} {C : Nat → mK → mI → mJ → mP → Prop} {d2 mc ms : Nat} (hT : Tr o C) (hC : Ct yX9_post cX9_post 6 (some .int) d2 mc ms [.ref o, .int a0, .int a1] n kd I J P (pK o n kd I J P (.inr "java/lang/IllegalArgumentException") C)) (hk : kd o = some (0, 9)) (hout : kd (o + 125) = some (4, 1)) : CtW [(0, 10, 13, 18), (0, 10, 17, 13)] yL_post cL_post 5 (some .int) (d2 + 1) mc ms [.ref o, .int a0, .int a1, .ref (o + 125)] n kd I J P (pWv o n kd I J P 2 v C) := by
  refine ctw_of 1 (by decide +kernel) (Nat.le_of_ble_eq_true rfl) rfl ?_
  refine r_aload_n dL_post_0 rfl ?_
  refine r_iconst (v := nI 0) dL_post_1 (by decide) ?_
  refine r_aload_n dL_post_2 rfl ?_
  refine r_iload_n dL_post_3 rfl ?_
  refine r_iload_n dL_post_4 rfl ?_
  refine r_virtC (kc2 := 0) (ks2 := 0) rfl hC lk_L_51 mc_X9_post dL_post_5 hk (by omega) rfl rfl (Nat.le_of_ble_eq_true rfl) (by omega) (by omega) (fun E n1 kd1 I1 J1 P1 h => ?_) (fun y n1 kd1 I1 J1 P1 h => nomatch h.1)
  have hE : E = "java/lang/IllegalArgumentException" := Sum.inr.inj h.1
  subst hE
  exact ⟨nI 2, ⟨by decide, [⟨0, 10, 13, 18⟩], ⟨0, 10, 17, 13⟩, [], rfl, (fun z hz => by rcases List.mem_cons.mp hz with e | e; subst e; exact ⟨by decide, rfl, cl_L_18⟩; exact nomatch e), by decide, by decide, cl_L_13, 2, Or.inr ⟨4, dL_post_17, by decide, rfl⟩, ⟨2, dL_post_19, rfl⟩, dL_post_20⟩, pWv.of (by decide) h⟩

theorem dL_feud_0 : decode cL_feud 0 = .ok (.aload 4, 2) := by decide +kernel
theorem dL_feud_2 : decode cL_feud 2 = .ok (.iconst 0, 1) := by decide +kernel
theorem dL_feud_3 : decode cL_feud 3 = .ok (.aload_n 0, 1) := by decide +kernel
theorem dL_feud_4 : decode cL_feud 4 = .ok (.iload_n 1, 1) := by decide +kernel
theorem dL_feud_5 : decode cL_feud 5 = .ok (.iload_n 2, 1) := by decide +kernel
theorem dL_feud_6 : decode cL_feud 6 = .ok (.iload_n 3, 1) := by decide +kernel
theorem dL_feud_7 : decode cL_feud 7 = .ok (.invokevirtual 54, 3) := by decide +kernel
theorem dL_feud_10 : decode cL_feud 10 = .ok (.i2l, 1) := by decide +kernel
theorem dL_feud_11 : decode cL_feud 11 = .ok (.lastore, 1) := by decide +kernel
theorem dL_feud_12 : decode cL_feud 12 = .ok (.goto 11, 3) := by decide +kernel
theorem dL_feud_15 : decode cL_feud 15 = .ok (.astore 5, 2) := by decide +kernel
theorem dL_feud_17 : decode cL_feud 17 = .ok (.iconst 1, 1) := by decide +kernel
theorem dL_feud_18 : decode cL_feud 18 = .ok (.ireturn, 1) := by decide +kernel
theorem dL_feud_19 : decode cL_feud 19 = .ok (.astore 5, 2) := by decide +kernel
theorem dL_feud_21 : decode cL_feud 21 = .ok (.iconst 2, 1) := by decide +kernel
theorem dL_feud_22 : decode cL_feud 22 = .ok (.ireturn, 1) := by decide +kernel
theorem dL_feud_23 : decode cL_feud 23 = .ok (.iconst 0, 1) := by decide +kernel
theorem dL_feud_24 : decode cL_feud 24 = .ok (.ireturn, 1) := by decide +kernel

set_option maxHeartbeats 4000000 in
set_option maxRecDepth 100000 in
theorem v_feud_0 (o : Nat) (a0 : Int32) (a1 : Int32) (a2 : Int32) (v : Int32) {n : Nat} {kd : mK} {I : mI} {J : mJ} {P : mP} {C : Nat → mK → mI → mJ → mP → Prop} {d2 mc ms : Nat} (hT : Tr o C) (hC : Ct yX9_feud cX9_feud 4 (some .int) d2 mc ms [.ref o, .int a0, .int a1, .int a2] n kd I J P (pK o n kd I J P (.inl (some (.int v))) C)) (hk : kd o = some (0, 9)) (hout : kd (o + 125) = some (4, 1)) : CtW [(0, 12, 15, 18), (0, 12, 19, 13)] yL_feud cL_feud 6 (some .int) (d2 + 1) mc ms [.ref o, .int a0, .int a1, .int a2, .ref (o + 125)] n kd I J P (pWv o n kd I J P 0 v.toInt64 C) := by
  refine ctw_of 1 (by decide +kernel) (Nat.le_of_ble_eq_true rfl) rfl ?_
  refine r_aload dL_feud_0 rfl ?_
  refine r_iconst (v := nI 0) dL_feud_2 (by decide) ?_
  refine r_aload_n dL_feud_3 rfl ?_
  refine r_iload_n dL_feud_4 rfl ?_
  refine r_iload_n dL_feud_5 rfl ?_
  refine r_iload_n dL_feud_6 rfl ?_
  refine r_virtC (kc2 := 0) (ks2 := 0) rfl hC lk_L_54 mc_X9_feud dL_feud_7 hk (by omega) rfl rfl (Nat.le_of_ble_eq_true rfl) (by omega) (by omega) (fun E n1 kd1 I1 J1 P1 h => nomatch h.1) (fun y n1 kd1 I1 J1 P1 h => ?_)
  obtain ⟨v1, hc⟩ : ∃ y, pK o n kd I J P (.inl (some (.int v))) C y n1 kd1 I1 J1 P1 := ⟨_, h⟩
  cases h.1
  simp only [Option.toList, List.cons_append, List.nil_append]
  have ho1 : kd1 (o + 125) = some (4, 1) := by rw [(h.2.2.2.1 (o + 125) (by omega) (by omega)).1]; exact hout
  refine r_i2l dL_feud_10 ?_
  refine r_last dL_feud_11 ho1 (nI_in8 1 (j := 0) (by decide) (by decide)) (nI_clamp (n := 0) (by decide)) ?_
  refine r_goto (tgt := 23) dL_feud_12 (by decide) ?_
  refine r_iconst (v := nI 0) dL_feud_23 (by decide) ?_
  refine r_iret rfl dL_feud_24 ?_
  exact pWv.ok hT (by rw [am_up_s]) hc

set_option maxHeartbeats 4000000 in
set_option maxRecDepth 100000 in
theorem v_feud_1 (o : Nat) (a0 : Int32) (a1 : Int32) (a2 : Int32) (v : Int64) {n : Nat} {kd : mK} {I : mI} {J : mJ} {P : mP} {C : Nat → mK → mI → mJ → mP → Prop} {d2 mc ms : Nat} (hT : Tr o C) (hC : Ct yX9_feud cX9_feud 4 (some .int) d2 mc ms [.ref o, .int a0, .int a1, .int a2] n kd I J P (pK o n kd I J P (.inr "java/util/NoSuchElementException") C)) (hk : kd o = some (0, 9)) (hout : kd (o + 125) = some (4, 1)) : CtW [(0, 12, 15, 18), (0, 12, 19, 13)] yL_feud cL_feud 6 (some .int) (d2 + 1) mc ms [.ref o, .int a0, .int a1, .int a2, .ref (o + 125)] n kd I J P (pWv o n kd I J P 1 v C) := by
  refine ctw_of 1 (by decide +kernel) (Nat.le_of_ble_eq_true rfl) rfl ?_
  refine r_aload dL_feud_0 rfl ?_
  refine r_iconst (v := nI 0) dL_feud_2 (by decide) ?_
  refine r_aload_n dL_feud_3 rfl ?_
  refine r_iload_n dL_feud_4 rfl ?_
  refine r_iload_n dL_feud_5 rfl ?_
  refine r_iload_n dL_feud_6 rfl ?_
  refine r_virtC (kc2 := 0) (ks2 := 0) rfl hC lk_L_54 mc_X9_feud dL_feud_7 hk (by omega) rfl rfl (Nat.le_of_ble_eq_true rfl) (by omega) (by omega) (fun E n1 kd1 I1 J1 P1 h => ?_) (fun y n1 kd1 I1 J1 P1 h => nomatch h.1)
  have hE : E = "java/util/NoSuchElementException" := Sum.inr.inj h.1
  subst hE
  exact ⟨nI 1, ⟨by decide, [], ⟨0, 12, 15, 18⟩, [⟨0, 12, 19, 13⟩], rfl, (fun z hz => nomatch hz), by decide, by decide, cl_L_18, 2, Or.inr ⟨5, dL_feud_15, by decide, rfl⟩, ⟨1, dL_feud_17, rfl⟩, dL_feud_18⟩, pWv.of (by decide) h⟩

set_option maxHeartbeats 4000000 in
set_option maxRecDepth 100000 in
theorem v_feud_2 (o : Nat) (a0 : Int32) (a1 : Int32) (a2 : Int32) (v : Int64) {n : Nat} {kd : mK} {I : mI} {J : mJ} {P : mP} {C : Nat → mK → mI → mJ → mP → Prop} {d2 mc ms : Nat} (hT : Tr o C) (hC : Ct yX9_feud cX9_feud 4 (some .int) d2 mc ms [.ref o, .int a0, .int a1, .int a2] n kd I J P (pK o n kd I J P (.inr "java/lang/IllegalArgumentException") C)) (hk : kd o = some (0, 9)) (hout : kd (o + 125) = some (4, 1)) : CtW [(0, 12, 15, 18), (0, 12, 19, 13)] yL_feud cL_feud 6 (some .int) (d2 + 1) mc ms [.ref o, .int a0, .int a1, .int a2, .ref (o + 125)] n kd I J P (pWv o n kd I J P 2 v C) := by
  refine ctw_of 1 (by decide +kernel) (Nat.le_of_ble_eq_true rfl) rfl ?_
  refine r_aload dL_feud_0 rfl ?_
  refine r_iconst (v := nI 0) dL_feud_2 (by decide) ?_
  refine r_aload_n dL_feud_3 rfl ?_
  refine r_iload_n dL_feud_4 rfl ?_
  refine r_iload_n dL_feud_5 rfl ?_
  refine r_iload_n dL_feud_6 rfl ?_
  refine r_virtC (kc2 := 0) (ks2 := 0) rfl hC lk_L_54 mc_X9_feud dL_feud_7 hk (by omega) rfl rfl (Nat.le_of_ble_eq_true rfl) (by omega) (by omega) (fun E n1 kd1 I1 J1 P1 h => ?_) (fun y n1 kd1 I1 J1 P1 h => nomatch h.1)
  have hE : E = "java/lang/IllegalArgumentException" := Sum.inr.inj h.1
  subst hE
  exact ⟨nI 2, ⟨by decide, [⟨0, 12, 15, 18⟩], ⟨0, 12, 19, 13⟩, [], rfl, (fun z hz => by rcases List.mem_cons.mp hz with e | e; subst e; exact ⟨by decide, rfl, cl_L_18⟩; exact nomatch e), by decide, by decide, cl_L_13, 2, Or.inr ⟨5, dL_feud_19, by decide, rfl⟩, ⟨2, dL_feud_21, rfl⟩, dL_feud_22⟩, pWv.of (by decide) h⟩

theorem dL_years_0 : decode cL_years 0 = .ok (.aload_n 3, 1) := by decide +kernel
theorem dL_years_1 : decode cL_years 1 = .ok (.iconst 0, 1) := by decide +kernel
theorem dL_years_2 : decode cL_years 2 = .ok (.aload_n 0, 1) := by decide +kernel
theorem dL_years_3 : decode cL_years 3 = .ok (.iload_n 1, 1) := by decide +kernel
theorem dL_years_4 : decode cL_years 4 = .ok (.iload_n 2, 1) := by decide +kernel
theorem dL_years_5 : decode cL_years 5 = .ok (.invokevirtual 57, 3) := by decide +kernel
theorem dL_years_8 : decode cL_years 8 = .ok (.i2l, 1) := by decide +kernel
theorem dL_years_9 : decode cL_years 9 = .ok (.lastore, 1) := by decide +kernel
theorem dL_years_10 : decode cL_years 10 = .ok (.goto 7, 3) := by decide +kernel
theorem dL_years_13 : decode cL_years 13 = .ok (.astore 4, 2) := by decide +kernel
theorem dL_years_15 : decode cL_years 15 = .ok (.iconst 1, 1) := by decide +kernel
theorem dL_years_16 : decode cL_years 16 = .ok (.ireturn, 1) := by decide +kernel
theorem dL_years_17 : decode cL_years 17 = .ok (.iconst 0, 1) := by decide +kernel
theorem dL_years_18 : decode cL_years 18 = .ok (.ireturn, 1) := by decide +kernel

set_option maxHeartbeats 4000000 in
set_option maxRecDepth 100000 in
theorem v_years_0 (o : Nat) (a0 : Int32) (a1 : Int32) (v : Int32) {n : Nat} {kd : mK} {I : mI} {J : mJ} {P : mP} {C : Nat → mK → mI → mJ → mP → Prop} {d2 mc ms : Nat} (hT : Tr o C) (hC : Ct yX9_years cX9_years 7 (some .int) d2 mc ms [.ref o, .int a0, .int a1] n kd I J P (pK o n kd I J P (.inl (some (.int v))) C)) (hk : kd o = some (0, 9)) (hout : kd (o + 125) = some (4, 1)) : CtW [(0, 10, 13, 13)] yL_years cL_years 5 (some .int) (d2 + 1) mc ms [.ref o, .int a0, .int a1, .ref (o + 125)] n kd I J P (pWv o n kd I J P 0 v.toInt64 C) := by
  refine ctw_of 1 (by decide +kernel) (Nat.le_of_ble_eq_true rfl) rfl ?_
  refine r_aload_n dL_years_0 rfl ?_
  refine r_iconst (v := nI 0) dL_years_1 (by decide) ?_
  refine r_aload_n dL_years_2 rfl ?_
  refine r_iload_n dL_years_3 rfl ?_
  refine r_iload_n dL_years_4 rfl ?_
  refine r_virtC (kc2 := 0) (ks2 := 0) rfl hC lk_L_57 mc_X9_years dL_years_5 hk (by omega) rfl rfl (Nat.le_of_ble_eq_true rfl) (by omega) (by omega) (fun E n1 kd1 I1 J1 P1 h => nomatch h.1) (fun y n1 kd1 I1 J1 P1 h => ?_)
  obtain ⟨v1, hc⟩ : ∃ y, pK o n kd I J P (.inl (some (.int v))) C y n1 kd1 I1 J1 P1 := ⟨_, h⟩
  cases h.1
  simp only [Option.toList, List.cons_append, List.nil_append]
  have ho1 : kd1 (o + 125) = some (4, 1) := by rw [(h.2.2.2.1 (o + 125) (by omega) (by omega)).1]; exact hout
  refine r_i2l dL_years_8 ?_
  refine r_last dL_years_9 ho1 (nI_in8 1 (j := 0) (by decide) (by decide)) (nI_clamp (n := 0) (by decide)) ?_
  refine r_goto (tgt := 17) dL_years_10 (by decide) ?_
  refine r_iconst (v := nI 0) dL_years_17 (by decide) ?_
  refine r_iret rfl dL_years_18 ?_
  exact pWv.ok hT (by rw [am_up_s]) hc

set_option maxHeartbeats 4000000 in
set_option maxRecDepth 100000 in
theorem v_years_1 (o : Nat) (a0 : Int32) (a1 : Int32) (v : Int64) {n : Nat} {kd : mK} {I : mI} {J : mJ} {P : mP} {C : Nat → mK → mI → mJ → mP → Prop} {d2 mc ms : Nat} (hT : Tr o C) (hC : Ct yX9_years cX9_years 7 (some .int) d2 mc ms [.ref o, .int a0, .int a1] n kd I J P (pK o n kd I J P (.inr "java/lang/IllegalArgumentException") C)) (hk : kd o = some (0, 9)) (hout : kd (o + 125) = some (4, 1)) : CtW [(0, 10, 13, 13)] yL_years cL_years 5 (some .int) (d2 + 1) mc ms [.ref o, .int a0, .int a1, .ref (o + 125)] n kd I J P (pWv o n kd I J P 1 v C) := by
  refine ctw_of 1 (by decide +kernel) (Nat.le_of_ble_eq_true rfl) rfl ?_
  refine r_aload_n dL_years_0 rfl ?_
  refine r_iconst (v := nI 0) dL_years_1 (by decide) ?_
  refine r_aload_n dL_years_2 rfl ?_
  refine r_iload_n dL_years_3 rfl ?_
  refine r_iload_n dL_years_4 rfl ?_
  refine r_virtC (kc2 := 0) (ks2 := 0) rfl hC lk_L_57 mc_X9_years dL_years_5 hk (by omega) rfl rfl (Nat.le_of_ble_eq_true rfl) (by omega) (by omega) (fun E n1 kd1 I1 J1 P1 h => ?_) (fun y n1 kd1 I1 J1 P1 h => nomatch h.1)
  have hE : E = "java/lang/IllegalArgumentException" := Sum.inr.inj h.1
  subst hE
  exact ⟨nI 1, ⟨by decide, [], ⟨0, 10, 13, 13⟩, [], rfl, (fun z hz => nomatch hz), by decide, by decide, cl_L_13, 2, Or.inr ⟨4, dL_years_13, by decide, rfl⟩, ⟨1, dL_years_15, rfl⟩, dL_years_16⟩, pWv.of (by decide) h⟩

theorem dL_proof_0 : decode cL_proof 0 = .ok (.aload_n 2, 1) := by decide +kernel
theorem dL_proof_1 : decode cL_proof 1 = .ok (.iconst 0, 1) := by decide +kernel
theorem dL_proof_2 : decode cL_proof 2 = .ok (.aload_n 0, 1) := by decide +kernel
theorem dL_proof_3 : decode cL_proof 3 = .ok (.iload_n 1, 1) := by decide +kernel
theorem dL_proof_4 : decode cL_proof 4 = .ok (.invokevirtual 60, 3) := by decide +kernel
theorem dL_proof_7 : decode cL_proof 7 = .ok (.i2l, 1) := by decide +kernel
theorem dL_proof_8 : decode cL_proof 8 = .ok (.lastore, 1) := by decide +kernel
theorem dL_proof_9 : decode cL_proof 9 = .ok (.goto 6, 3) := by decide +kernel
theorem dL_proof_12 : decode cL_proof 12 = .ok (.astore_n 3, 1) := by decide +kernel
theorem dL_proof_13 : decode cL_proof 13 = .ok (.iconst 1, 1) := by decide +kernel
theorem dL_proof_14 : decode cL_proof 14 = .ok (.ireturn, 1) := by decide +kernel
theorem dL_proof_15 : decode cL_proof 15 = .ok (.iconst 0, 1) := by decide +kernel
theorem dL_proof_16 : decode cL_proof 16 = .ok (.ireturn, 1) := by decide +kernel

set_option maxHeartbeats 4000000 in
set_option maxRecDepth 100000 in
theorem v_proof_0 (o : Nat) (a0 : Int32) (v : Int32) {n : Nat} {kd : mK} {I : mI} {J : mJ} {P : mP} {C : Nat → mK → mI → mJ → mP → Prop} {d2 mc ms : Nat} (hT : Tr o C) (hC : Ct yX9_proof cX9_proof 2 (some .int) d2 mc ms [.ref o, .int a0] n kd I J P (pK o n kd I J P (.inl (some (.int v))) C)) (hk : kd o = some (0, 9)) (hout : kd (o + 125) = some (4, 1)) : CtW [(0, 9, 12, 18)] yL_proof cL_proof 4 (some .int) (d2 + 1) mc ms [.ref o, .int a0, .ref (o + 125)] n kd I J P (pWv o n kd I J P 0 v.toInt64 C) := by
  refine ctw_of 1 (by decide +kernel) (Nat.le_of_ble_eq_true rfl) rfl ?_
  refine r_aload_n dL_proof_0 rfl ?_
  refine r_iconst (v := nI 0) dL_proof_1 (by decide) ?_
  refine r_aload_n dL_proof_2 rfl ?_
  refine r_iload_n dL_proof_3 rfl ?_
  refine r_virtC (kc2 := 0) (ks2 := 0) rfl hC lk_L_60 mc_X9_proof dL_proof_4 hk (by omega) rfl rfl (Nat.le_of_ble_eq_true rfl) (by omega) (by omega) (fun E n1 kd1 I1 J1 P1 h => nomatch h.1) (fun y n1 kd1 I1 J1 P1 h => ?_)
  obtain ⟨v1, hc⟩ : ∃ y, pK o n kd I J P (.inl (some (.int v))) C y n1 kd1 I1 J1 P1 := ⟨_, h⟩
  cases h.1
  simp only [Option.toList, List.cons_append, List.nil_append]
  have ho1 : kd1 (o + 125) = some (4, 1) := by rw [(h.2.2.2.1 (o + 125) (by omega) (by omega)).1]; exact hout
  refine r_i2l dL_proof_7 ?_
  refine r_last dL_proof_8 ho1 (nI_in8 1 (j := 0) (by decide) (by decide)) (nI_clamp (n := 0) (by decide)) ?_
  refine r_goto (tgt := 15) dL_proof_9 (by decide) ?_
  refine r_iconst (v := nI 0) dL_proof_15 (by decide) ?_
  refine r_iret rfl dL_proof_16 ?_
  exact pWv.ok hT (by rw [am_up_s]) hc

set_option maxHeartbeats 4000000 in
set_option maxRecDepth 100000 in
theorem v_proof_1 (o : Nat) (a0 : Int32) (v : Int64) {n : Nat} {kd : mK} {I : mI} {J : mJ} {P : mP} {C : Nat → mK → mI → mJ → mP → Prop} {d2 mc ms : Nat} (hT : Tr o C) (hC : Ct yX9_proof cX9_proof 2 (some .int) d2 mc ms [.ref o, .int a0] n kd I J P (pK o n kd I J P (.inr "java/util/NoSuchElementException") C)) (hk : kd o = some (0, 9)) (hout : kd (o + 125) = some (4, 1)) : CtW [(0, 9, 12, 18)] yL_proof cL_proof 4 (some .int) (d2 + 1) mc ms [.ref o, .int a0, .ref (o + 125)] n kd I J P (pWv o n kd I J P 1 v C) := by
  refine ctw_of 1 (by decide +kernel) (Nat.le_of_ble_eq_true rfl) rfl ?_
  refine r_aload_n dL_proof_0 rfl ?_
  refine r_iconst (v := nI 0) dL_proof_1 (by decide) ?_
  refine r_aload_n dL_proof_2 rfl ?_
  refine r_iload_n dL_proof_3 rfl ?_
  refine r_virtC (kc2 := 0) (ks2 := 0) rfl hC lk_L_60 mc_X9_proof dL_proof_4 hk (by omega) rfl rfl (Nat.le_of_ble_eq_true rfl) (by omega) (by omega) (fun E n1 kd1 I1 J1 P1 h => ?_) (fun y n1 kd1 I1 J1 P1 h => nomatch h.1)
  have hE : E = "java/util/NoSuchElementException" := Sum.inr.inj h.1
  subst hE
  exact ⟨nI 1, ⟨by decide, [], ⟨0, 9, 12, 18⟩, [], rfl, (fun z hz => nomatch hz), by decide, by decide, cl_L_18, 1, Or.inl ⟨3, dL_proof_12, by decide, rfl⟩, ⟨1, dL_proof_13, rfl⟩, dL_proof_14⟩, pWv.of (by decide) h⟩

theorem dL_build_0 : decode cL_build 0 = .ok (.aload_n 2, 1) := by decide +kernel
theorem dL_build_1 : decode cL_build 1 = .ok (.iconst 0, 1) := by decide +kernel
theorem dL_build_2 : decode cL_build 2 = .ok (.aload_n 0, 1) := by decide +kernel
theorem dL_build_3 : decode cL_build 3 = .ok (.iload_n 1, 1) := by decide +kernel
theorem dL_build_4 : decode cL_build 4 = .ok (.invokevirtual 63, 3) := by decide +kernel
theorem dL_build_7 : decode cL_build 7 = .ok (.i2l, 1) := by decide +kernel
theorem dL_build_8 : decode cL_build 8 = .ok (.lastore, 1) := by decide +kernel
theorem dL_build_9 : decode cL_build 9 = .ok (.goto 9, 3) := by decide +kernel
theorem dL_build_12 : decode cL_build 12 = .ok (.astore_n 3, 1) := by decide +kernel
theorem dL_build_13 : decode cL_build 13 = .ok (.iconst 1, 1) := by decide +kernel
theorem dL_build_14 : decode cL_build 14 = .ok (.ireturn, 1) := by decide +kernel
theorem dL_build_15 : decode cL_build 15 = .ok (.astore_n 3, 1) := by decide +kernel
theorem dL_build_16 : decode cL_build 16 = .ok (.iconst 2, 1) := by decide +kernel
theorem dL_build_17 : decode cL_build 17 = .ok (.ireturn, 1) := by decide +kernel
theorem dL_build_18 : decode cL_build 18 = .ok (.iconst 0, 1) := by decide +kernel
theorem dL_build_19 : decode cL_build 19 = .ok (.ireturn, 1) := by decide +kernel

set_option maxHeartbeats 4000000 in
set_option maxRecDepth 100000 in
theorem v_build_0 (o : Nat) (a0 : Int32) (v : Int32) {n : Nat} {kd : mK} {I : mI} {J : mJ} {P : mP} {C : Nat → mK → mI → mJ → mP → Prop} {d2 mc ms : Nat} (hT : Tr o C) (hC : Ct yX9_build cX9_build 2 (some .int) d2 mc ms [.ref o, .int a0] n kd I J P (pK o n kd I J P (.inl (some (.int v))) C)) (hk : kd o = some (0, 9)) (hout : kd (o + 125) = some (4, 1)) : CtW [(0, 9, 12, 18), (0, 9, 15, 13)] yL_build cL_build 4 (some .int) (d2 + 1) mc ms [.ref o, .int a0, .ref (o + 125)] n kd I J P (pWv o n kd I J P 0 v.toInt64 C) := by
  refine ctw_of 1 (by decide +kernel) (Nat.le_of_ble_eq_true rfl) rfl ?_
  refine r_aload_n dL_build_0 rfl ?_
  refine r_iconst (v := nI 0) dL_build_1 (by decide) ?_
  refine r_aload_n dL_build_2 rfl ?_
  refine r_iload_n dL_build_3 rfl ?_
  refine r_virtC (kc2 := 0) (ks2 := 0) rfl hC lk_L_63 mc_X9_build dL_build_4 hk (by omega) rfl rfl (Nat.le_of_ble_eq_true rfl) (by omega) (by omega) (fun E n1 kd1 I1 J1 P1 h => nomatch h.1) (fun y n1 kd1 I1 J1 P1 h => ?_)
  obtain ⟨v1, hc⟩ : ∃ y, pK o n kd I J P (.inl (some (.int v))) C y n1 kd1 I1 J1 P1 := ⟨_, h⟩
  cases h.1
  simp only [Option.toList, List.cons_append, List.nil_append]
  have ho1 : kd1 (o + 125) = some (4, 1) := by rw [(h.2.2.2.1 (o + 125) (by omega) (by omega)).1]; exact hout
  refine r_i2l dL_build_7 ?_
  refine r_last dL_build_8 ho1 (nI_in8 1 (j := 0) (by decide) (by decide)) (nI_clamp (n := 0) (by decide)) ?_
  refine r_goto (tgt := 18) dL_build_9 (by decide) ?_
  refine r_iconst (v := nI 0) dL_build_18 (by decide) ?_
  refine r_iret rfl dL_build_19 ?_
  exact pWv.ok hT (by rw [am_up_s]) hc

set_option maxHeartbeats 4000000 in
set_option maxRecDepth 100000 in
theorem v_build_1 (o : Nat) (a0 : Int32) (v : Int64) {n : Nat} {kd : mK} {I : mI} {J : mJ} {P : mP} {C : Nat → mK → mI → mJ → mP → Prop} {d2 mc ms : Nat} (hT : Tr o C) (hC : Ct yX9_build cX9_build 2 (some .int) d2 mc ms [.ref o, .int a0] n kd I J P (pK o n kd I J P (.inr "java/util/NoSuchElementException") C)) (hk : kd o = some (0, 9)) (hout : kd (o + 125) = some (4, 1)) : CtW [(0, 9, 12, 18), (0, 9, 15, 13)] yL_build cL_build 4 (some .int) (d2 + 1) mc ms [.ref o, .int a0, .ref (o + 125)] n kd I J P (pWv o n kd I J P 1 v C) := by
  refine ctw_of 1 (by decide +kernel) (Nat.le_of_ble_eq_true rfl) rfl ?_
  refine r_aload_n dL_build_0 rfl ?_
  refine r_iconst (v := nI 0) dL_build_1 (by decide) ?_
  refine r_aload_n dL_build_2 rfl ?_
  refine r_iload_n dL_build_3 rfl ?_
  refine r_virtC (kc2 := 0) (ks2 := 0) rfl hC lk_L_63 mc_X9_build dL_build_4 hk (by omega) rfl rfl (Nat.le_of_ble_eq_true rfl) (by omega) (by omega) (fun E n1 kd1 I1 J1 P1 h => ?_) (fun y n1 kd1 I1 J1 P1 h => nomatch h.1)
  have hE : E = "java/util/NoSuchElementException" := Sum.inr.inj h.1
  subst hE
  exact ⟨nI 1, ⟨by decide, [], ⟨0, 9, 12, 18⟩, [⟨0, 9, 15, 13⟩], rfl, (fun z hz => nomatch hz), by decide, by decide, cl_L_18, 1, Or.inl ⟨3, dL_build_12, by decide, rfl⟩, ⟨1, dL_build_13, rfl⟩, dL_build_14⟩, pWv.of (by decide) h⟩

set_option maxHeartbeats 4000000 in
set_option maxRecDepth 100000 in
theorem v_build_2 (o : Nat) (a0 : Int32) (v : Int64) {n : Nat} {kd : mK} {I : mI} {J : mJ} {P : mP} {C : Nat → mK → mI → mJ → mP → Prop} {d2 mc ms : Nat} (hT : Tr o C) (hC : Ct yX9_build cX9_build 2 (some .int) d2 mc ms [.ref o, .int a0] n kd I J P (pK o n kd I J P (.inr "java/lang/IllegalArgumentException") C)) (hk : kd o = some (0, 9)) (hout : kd (o + 125) = some (4, 1)) : CtW [(0, 9, 12, 18), (0, 9, 15, 13)] yL_build cL_build 4 (some .int) (d2 + 1) mc ms [.ref o, .int a0, .ref (o + 125)] n kd I J P (pWv o n kd I J P 2 v C) := by
  refine ctw_of 1 (by decide +kernel) (Nat.le_of_ble_eq_true rfl) rfl ?_
  refine r_aload_n dL_build_0 rfl ?_
  refine r_iconst (v := nI 0) dL_build_1 (by decide) ?_
  refine r_aload_n dL_build_2 rfl ?_
  refine r_iload_n dL_build_3 rfl ?_
  refine r_virtC (kc2 := 0) (ks2 := 0) rfl hC lk_L_63 mc_X9_build dL_build_4 hk (by omega) rfl rfl (Nat.le_of_ble_eq_true rfl) (by omega) (by omega) (fun E n1 kd1 I1 J1 P1 h => ?_) (fun y n1 kd1 I1 J1 P1 h => nomatch h.1)
  have hE : E = "java/lang/IllegalArgumentException" := Sum.inr.inj h.1
  subst hE
  exact ⟨nI 2, ⟨by decide, [⟨0, 9, 12, 18⟩], ⟨0, 9, 15, 13⟩, [], rfl, (fun z hz => by rcases List.mem_cons.mp hz with e | e; subst e; exact ⟨by decide, rfl, cl_L_18⟩; exact nomatch e), by decide, by decide, cl_L_13, 1, Or.inl ⟨3, dL_build_15, by decide, rfl⟩, ⟨2, dL_build_16, rfl⟩, dL_build_17⟩, pWv.of (by decide) h⟩

theorem dL_changed_0 : decode cL_changed 0 = .ok (.aload 5, 2) := by decide +kernel
theorem dL_changed_2 : decode cL_changed 2 = .ok (.iconst 0, 1) := by decide +kernel
theorem dL_changed_3 : decode cL_changed 3 = .ok (.aload_n 0, 1) := by decide +kernel
theorem dL_changed_4 : decode cL_changed 4 = .ok (.iload_n 1, 1) := by decide +kernel
theorem dL_changed_5 : decode cL_changed 5 = .ok (.iload_n 2, 1) := by decide +kernel
theorem dL_changed_6 : decode cL_changed 6 = .ok (.iload_n 3, 1) := by decide +kernel
theorem dL_changed_7 : decode cL_changed 7 = .ok (.iload 4, 2) := by decide +kernel
theorem dL_changed_9 : decode cL_changed 9 = .ok (.invokevirtual 66, 3) := by decide +kernel
theorem dL_changed_12 : decode cL_changed 12 = .ok (.i2l, 1) := by decide +kernel
theorem dL_changed_13 : decode cL_changed 13 = .ok (.lastore, 1) := by decide +kernel
theorem dL_changed_14 : decode cL_changed 14 = .ok (.goto 11, 3) := by decide +kernel
theorem dL_changed_17 : decode cL_changed 17 = .ok (.astore 6, 2) := by decide +kernel
theorem dL_changed_19 : decode cL_changed 19 = .ok (.iconst 1, 1) := by decide +kernel
theorem dL_changed_20 : decode cL_changed 20 = .ok (.ireturn, 1) := by decide +kernel
theorem dL_changed_21 : decode cL_changed 21 = .ok (.astore 6, 2) := by decide +kernel
theorem dL_changed_23 : decode cL_changed 23 = .ok (.iconst 2, 1) := by decide +kernel
theorem dL_changed_24 : decode cL_changed 24 = .ok (.ireturn, 1) := by decide +kernel
theorem dL_changed_25 : decode cL_changed 25 = .ok (.iconst 0, 1) := by decide +kernel
theorem dL_changed_26 : decode cL_changed 26 = .ok (.ireturn, 1) := by decide +kernel

set_option maxHeartbeats 4000000 in
set_option maxRecDepth 100000 in
theorem v_changed_0 (o : Nat) (a0 : Int32) (a1 : Int32) (a2 : Int32) (a3 : Int32) (v : Int32) {n : Nat} {kd : mK} {I : mI} {J : mJ} {P : mP} {C : Nat → mK → mI → mJ → mP → Prop} {d2 mc ms : Nat} (hT : Tr o C) (hC : Ct yX9_changed cX9_changed 6 (some .int) d2 mc ms [.ref o, .int a0, .int a1, .int a2, .int a3] n kd I J P (pK o n kd I J P (.inl (some (.int v))) C)) (hk : kd o = some (0, 9)) (hout : kd (o + 125) = some (4, 1)) : CtW [(0, 14, 17, 18), (0, 14, 21, 13)] yL_changed cL_changed 7 (some .int) (d2 + 1) mc ms [.ref o, .int a0, .int a1, .int a2, .int a3, .ref (o + 125)] n kd I J P (pWv o n kd I J P 0 v.toInt64 C) := by
  refine ctw_of 1 (by decide +kernel) (Nat.le_of_ble_eq_true rfl) rfl ?_
  refine r_aload dL_changed_0 rfl ?_
  refine r_iconst (v := nI 0) dL_changed_2 (by decide) ?_
  refine r_aload_n dL_changed_3 rfl ?_
  refine r_iload_n dL_changed_4 rfl ?_
  refine r_iload_n dL_changed_5 rfl ?_
  refine r_iload_n dL_changed_6 rfl ?_
  refine r_iload dL_changed_7 rfl ?_
  refine r_virtC (kc2 := 0) (ks2 := 0) rfl hC lk_L_66 mc_X9_changed dL_changed_9 hk (by omega) rfl rfl (Nat.le_of_ble_eq_true rfl) (by omega) (by omega) (fun E n1 kd1 I1 J1 P1 h => nomatch h.1) (fun y n1 kd1 I1 J1 P1 h => ?_)
  obtain ⟨v1, hc⟩ : ∃ y, pK o n kd I J P (.inl (some (.int v))) C y n1 kd1 I1 J1 P1 := ⟨_, h⟩
  cases h.1
  simp only [Option.toList, List.cons_append, List.nil_append]
  have ho1 : kd1 (o + 125) = some (4, 1) := by rw [(h.2.2.2.1 (o + 125) (by omega) (by omega)).1]; exact hout
  refine r_i2l dL_changed_12 ?_
  refine r_last dL_changed_13 ho1 (nI_in8 1 (j := 0) (by decide) (by decide)) (nI_clamp (n := 0) (by decide)) ?_
  refine r_goto (tgt := 25) dL_changed_14 (by decide) ?_
  refine r_iconst (v := nI 0) dL_changed_25 (by decide) ?_
  refine r_iret rfl dL_changed_26 ?_
  exact pWv.ok hT (by rw [am_up_s]) hc

set_option maxHeartbeats 4000000 in
set_option maxRecDepth 100000 in
theorem v_changed_1 (o : Nat) (a0 : Int32) (a1 : Int32) (a2 : Int32) (a3 : Int32) (v : Int64) {n : Nat} {kd : mK} {I : mI} {J : mJ} {P : mP} {C : Nat → mK → mI → mJ → mP → Prop} {d2 mc ms : Nat} (hT : Tr o C) (hC : Ct yX9_changed cX9_changed 6 (some .int) d2 mc ms [.ref o, .int a0, .int a1, .int a2, .int a3] n kd I J P (pK o n kd I J P (.inr "java/util/NoSuchElementException") C)) (hk : kd o = some (0, 9)) (hout : kd (o + 125) = some (4, 1)) : CtW [(0, 14, 17, 18), (0, 14, 21, 13)] yL_changed cL_changed 7 (some .int) (d2 + 1) mc ms [.ref o, .int a0, .int a1, .int a2, .int a3, .ref (o + 125)] n kd I J P (pWv o n kd I J P 1 v C) := by
  refine ctw_of 1 (by decide +kernel) (Nat.le_of_ble_eq_true rfl) rfl ?_
  refine r_aload dL_changed_0 rfl ?_
  refine r_iconst (v := nI 0) dL_changed_2 (by decide) ?_
  refine r_aload_n dL_changed_3 rfl ?_
  refine r_iload_n dL_changed_4 rfl ?_
  refine r_iload_n dL_changed_5 rfl ?_
  refine r_iload_n dL_changed_6 rfl ?_
  refine r_iload dL_changed_7 rfl ?_
  refine r_virtC (kc2 := 0) (ks2 := 0) rfl hC lk_L_66 mc_X9_changed dL_changed_9 hk (by omega) rfl rfl (Nat.le_of_ble_eq_true rfl) (by omega) (by omega) (fun E n1 kd1 I1 J1 P1 h => ?_) (fun y n1 kd1 I1 J1 P1 h => nomatch h.1)
  have hE : E = "java/util/NoSuchElementException" := Sum.inr.inj h.1
  subst hE
  exact ⟨nI 1, ⟨by decide, [], ⟨0, 14, 17, 18⟩, [⟨0, 14, 21, 13⟩], rfl, (fun z hz => nomatch hz), by decide, by decide, cl_L_18, 2, Or.inr ⟨6, dL_changed_17, by decide, rfl⟩, ⟨1, dL_changed_19, rfl⟩, dL_changed_20⟩, pWv.of (by decide) h⟩

set_option maxHeartbeats 4000000 in
set_option maxRecDepth 100000 in
theorem v_changed_2 (o : Nat) (a0 : Int32) (a1 : Int32) (a2 : Int32) (a3 : Int32) (v : Int64) {n : Nat} {kd : mK} {I : mI} {J : mJ} {P : mP} {C : Nat → mK → mI → mJ → mP → Prop} {d2 mc ms : Nat} (hT : Tr o C) (hC : Ct yX9_changed cX9_changed 6 (some .int) d2 mc ms [.ref o, .int a0, .int a1, .int a2, .int a3] n kd I J P (pK o n kd I J P (.inr "java/lang/IllegalArgumentException") C)) (hk : kd o = some (0, 9)) (hout : kd (o + 125) = some (4, 1)) : CtW [(0, 14, 17, 18), (0, 14, 21, 13)] yL_changed cL_changed 7 (some .int) (d2 + 1) mc ms [.ref o, .int a0, .int a1, .int a2, .int a3, .ref (o + 125)] n kd I J P (pWv o n kd I J P 2 v C) := by
  refine ctw_of 1 (by decide +kernel) (Nat.le_of_ble_eq_true rfl) rfl ?_
  refine r_aload dL_changed_0 rfl ?_
  refine r_iconst (v := nI 0) dL_changed_2 (by decide) ?_
  refine r_aload_n dL_changed_3 rfl ?_
  refine r_iload_n dL_changed_4 rfl ?_
  refine r_iload_n dL_changed_5 rfl ?_
  refine r_iload_n dL_changed_6 rfl ?_
  refine r_iload dL_changed_7 rfl ?_
  refine r_virtC (kc2 := 0) (ks2 := 0) rfl hC lk_L_66 mc_X9_changed dL_changed_9 hk (by omega) rfl rfl (Nat.le_of_ble_eq_true rfl) (by omega) (by omega) (fun E n1 kd1 I1 J1 P1 h => ?_) (fun y n1 kd1 I1 J1 P1 h => nomatch h.1)
  have hE : E = "java/lang/IllegalArgumentException" := Sum.inr.inj h.1
  subst hE
  exact ⟨nI 2, ⟨by decide, [⟨0, 14, 17, 18⟩], ⟨0, 14, 21, 13⟩, [], rfl, (fun z hz => by rcases List.mem_cons.mp hz with e | e; subst e; exact ⟨by decide, rfl, cl_L_18⟩; exact nomatch e), by decide, by decide, cl_L_13, 2, Or.inr ⟨6, dL_changed_21, by decide, rfl⟩, ⟨2, dL_changed_23, rfl⟩, dL_changed_24⟩, pWv.of (by decide) h⟩

theorem dL_walk_0 : decode cL_walk 0 = .ok (.aload 4, 2) := by decide +kernel
theorem dL_walk_2 : decode cL_walk 2 = .ok (.iconst 0, 1) := by decide +kernel
theorem dL_walk_3 : decode cL_walk 3 = .ok (.aload_n 0, 1) := by decide +kernel
theorem dL_walk_4 : decode cL_walk 4 = .ok (.iload_n 1, 1) := by decide +kernel
theorem dL_walk_5 : decode cL_walk 5 = .ok (.iload_n 2, 1) := by decide +kernel
theorem dL_walk_6 : decode cL_walk 6 = .ok (.iload_n 3, 1) := by decide +kernel
theorem dL_walk_7 : decode cL_walk 7 = .ok (.invokevirtual 70, 3) := by decide +kernel
theorem dL_walk_10 : decode cL_walk 10 = .ok (.i2l, 1) := by decide +kernel
theorem dL_walk_11 : decode cL_walk 11 = .ok (.lastore, 1) := by decide +kernel
theorem dL_walk_12 : decode cL_walk 12 = .ok (.goto 7, 3) := by decide +kernel
theorem dL_walk_15 : decode cL_walk 15 = .ok (.astore 5, 2) := by decide +kernel
theorem dL_walk_17 : decode cL_walk 17 = .ok (.iconst 1, 1) := by decide +kernel
theorem dL_walk_18 : decode cL_walk 18 = .ok (.ireturn, 1) := by decide +kernel
theorem dL_walk_19 : decode cL_walk 19 = .ok (.iconst 0, 1) := by decide +kernel
theorem dL_walk_20 : decode cL_walk 20 = .ok (.ireturn, 1) := by decide +kernel

set_option maxHeartbeats 4000000 in
set_option maxRecDepth 100000 in
theorem v_walk_0 (o : Nat) (a0 : Int32) (a1 : Int32) (a2 : Int32) (v : Int32) {n : Nat} {kd : mK} {I : mI} {J : mJ} {P : mP} {C : Nat → mK → mI → mJ → mP → Prop} {d2 mc ms : Nat} (hT : Tr o C) (hC : Ct yX9_walk cX9_walk 6 (some .int) d2 mc ms [.ref o, .int a0, .int a1, .int a2] n kd I J P (pK o n kd I J P (.inl (some (.int v))) C)) (hk : kd o = some (0, 9)) (hout : kd (o + 125) = some (4, 1)) : CtW [(0, 12, 15, 13)] yL_walk cL_walk 6 (some .int) (d2 + 1) mc ms [.ref o, .int a0, .int a1, .int a2, .ref (o + 125)] n kd I J P (pWv o n kd I J P 0 v.toInt64 C) := by
  refine ctw_of 1 (by decide +kernel) (Nat.le_of_ble_eq_true rfl) rfl ?_
  refine r_aload dL_walk_0 rfl ?_
  refine r_iconst (v := nI 0) dL_walk_2 (by decide) ?_
  refine r_aload_n dL_walk_3 rfl ?_
  refine r_iload_n dL_walk_4 rfl ?_
  refine r_iload_n dL_walk_5 rfl ?_
  refine r_iload_n dL_walk_6 rfl ?_
  refine r_virtC (kc2 := 0) (ks2 := 0) rfl hC lk_L_70 mc_X9_walk dL_walk_7 hk (by omega) rfl rfl (Nat.le_of_ble_eq_true rfl) (by omega) (by omega) (fun E n1 kd1 I1 J1 P1 h => nomatch h.1) (fun y n1 kd1 I1 J1 P1 h => ?_)
  obtain ⟨v1, hc⟩ : ∃ y, pK o n kd I J P (.inl (some (.int v))) C y n1 kd1 I1 J1 P1 := ⟨_, h⟩
  cases h.1
  simp only [Option.toList, List.cons_append, List.nil_append]
  have ho1 : kd1 (o + 125) = some (4, 1) := by rw [(h.2.2.2.1 (o + 125) (by omega) (by omega)).1]; exact hout
  refine r_i2l dL_walk_10 ?_
  refine r_last dL_walk_11 ho1 (nI_in8 1 (j := 0) (by decide) (by decide)) (nI_clamp (n := 0) (by decide)) ?_
  refine r_goto (tgt := 19) dL_walk_12 (by decide) ?_
  refine r_iconst (v := nI 0) dL_walk_19 (by decide) ?_
  refine r_iret rfl dL_walk_20 ?_
  exact pWv.ok hT (by rw [am_up_s]) hc

set_option maxHeartbeats 4000000 in
set_option maxRecDepth 100000 in
theorem v_walk_1 (o : Nat) (a0 : Int32) (a1 : Int32) (a2 : Int32) (v : Int64) {n : Nat} {kd : mK} {I : mI} {J : mJ} {P : mP} {C : Nat → mK → mI → mJ → mP → Prop} {d2 mc ms : Nat} (hT : Tr o C) (hC : Ct yX9_walk cX9_walk 6 (some .int) d2 mc ms [.ref o, .int a0, .int a1, .int a2] n kd I J P (pK o n kd I J P (.inr "java/lang/IllegalArgumentException") C)) (hk : kd o = some (0, 9)) (hout : kd (o + 125) = some (4, 1)) : CtW [(0, 12, 15, 13)] yL_walk cL_walk 6 (some .int) (d2 + 1) mc ms [.ref o, .int a0, .int a1, .int a2, .ref (o + 125)] n kd I J P (pWv o n kd I J P 1 v C) := by
  refine ctw_of 1 (by decide +kernel) (Nat.le_of_ble_eq_true rfl) rfl ?_
  refine r_aload dL_walk_0 rfl ?_
  refine r_iconst (v := nI 0) dL_walk_2 (by decide) ?_
  refine r_aload_n dL_walk_3 rfl ?_
  refine r_iload_n dL_walk_4 rfl ?_
  refine r_iload_n dL_walk_5 rfl ?_
  refine r_iload_n dL_walk_6 rfl ?_
  refine r_virtC (kc2 := 0) (ks2 := 0) rfl hC lk_L_70 mc_X9_walk dL_walk_7 hk (by omega) rfl rfl (Nat.le_of_ble_eq_true rfl) (by omega) (by omega) (fun E n1 kd1 I1 J1 P1 h => ?_) (fun y n1 kd1 I1 J1 P1 h => nomatch h.1)
  have hE : E = "java/lang/IllegalArgumentException" := Sum.inr.inj h.1
  subst hE
  exact ⟨nI 1, ⟨by decide, [], ⟨0, 12, 15, 13⟩, [], rfl, (fun z hz => nomatch hz), by decide, by decide, cl_L_13, 2, Or.inr ⟨5, dL_walk_15, by decide, rfl⟩, ⟨1, dL_walk_17, rfl⟩, dL_walk_18⟩, pWv.of (by decide) h⟩

theorem dL_door_0 : decode cL_door 0 = .ok (.aload_n 2, 1) := by decide +kernel
theorem dL_door_1 : decode cL_door 1 = .ok (.iconst 0, 1) := by decide +kernel
theorem dL_door_2 : decode cL_door 2 = .ok (.aload_n 0, 1) := by decide +kernel
theorem dL_door_3 : decode cL_door 3 = .ok (.iload_n 1, 1) := by decide +kernel
theorem dL_door_4 : decode cL_door 4 = .ok (.invokevirtual 73, 3) := by decide +kernel
theorem dL_door_7 : decode cL_door 7 = .ok (.i2l, 1) := by decide +kernel
theorem dL_door_8 : decode cL_door 8 = .ok (.lastore, 1) := by decide +kernel
theorem dL_door_9 : decode cL_door 9 = .ok (.goto 6, 3) := by decide +kernel
theorem dL_door_12 : decode cL_door 12 = .ok (.astore_n 3, 1) := by decide +kernel
theorem dL_door_13 : decode cL_door 13 = .ok (.iconst 1, 1) := by decide +kernel
theorem dL_door_14 : decode cL_door 14 = .ok (.ireturn, 1) := by decide +kernel
theorem dL_door_15 : decode cL_door 15 = .ok (.iconst 0, 1) := by decide +kernel
theorem dL_door_16 : decode cL_door 16 = .ok (.ireturn, 1) := by decide +kernel

set_option maxHeartbeats 4000000 in
set_option maxRecDepth 100000 in
theorem v_door_0 (o : Nat) (a0 : Int32) (v : Int32) {n : Nat} {kd : mK} {I : mI} {J : mJ} {P : mP} {C : Nat → mK → mI → mJ → mP → Prop} {d2 mc ms : Nat} (hT : Tr o C) (hC : Ct yX9_door cX9_door 2 (some .int) d2 mc ms [.ref o, .int a0] n kd I J P (pK o n kd I J P (.inl (some (.int v))) C)) (hk : kd o = some (0, 9)) (hout : kd (o + 125) = some (4, 1)) : CtW [(0, 9, 12, 18)] yL_door cL_door 4 (some .int) (d2 + 1) mc ms [.ref o, .int a0, .ref (o + 125)] n kd I J P (pWv o n kd I J P 0 v.toInt64 C) := by
  refine ctw_of 1 (by decide +kernel) (Nat.le_of_ble_eq_true rfl) rfl ?_
  refine r_aload_n dL_door_0 rfl ?_
  refine r_iconst (v := nI 0) dL_door_1 (by decide) ?_
  refine r_aload_n dL_door_2 rfl ?_
  refine r_iload_n dL_door_3 rfl ?_
  refine r_virtC (kc2 := 0) (ks2 := 0) rfl hC lk_L_73 mc_X9_door dL_door_4 hk (by omega) rfl rfl (Nat.le_of_ble_eq_true rfl) (by omega) (by omega) (fun E n1 kd1 I1 J1 P1 h => nomatch h.1) (fun y n1 kd1 I1 J1 P1 h => ?_)
  obtain ⟨v1, hc⟩ : ∃ y, pK o n kd I J P (.inl (some (.int v))) C y n1 kd1 I1 J1 P1 := ⟨_, h⟩
  cases h.1
  simp only [Option.toList, List.cons_append, List.nil_append]
  have ho1 : kd1 (o + 125) = some (4, 1) := by rw [(h.2.2.2.1 (o + 125) (by omega) (by omega)).1]; exact hout
  refine r_i2l dL_door_7 ?_
  refine r_last dL_door_8 ho1 (nI_in8 1 (j := 0) (by decide) (by decide)) (nI_clamp (n := 0) (by decide)) ?_
  refine r_goto (tgt := 15) dL_door_9 (by decide) ?_
  refine r_iconst (v := nI 0) dL_door_15 (by decide) ?_
  refine r_iret rfl dL_door_16 ?_
  exact pWv.ok hT (by rw [am_up_s]) hc

set_option maxHeartbeats 4000000 in
set_option maxRecDepth 100000 in
theorem v_door_1 (o : Nat) (a0 : Int32) (v : Int64) {n : Nat} {kd : mK} {I : mI} {J : mJ} {P : mP} {C : Nat → mK → mI → mJ → mP → Prop} {d2 mc ms : Nat} (hT : Tr o C) (hC : Ct yX9_door cX9_door 2 (some .int) d2 mc ms [.ref o, .int a0] n kd I J P (pK o n kd I J P (.inr "java/util/NoSuchElementException") C)) (hk : kd o = some (0, 9)) (hout : kd (o + 125) = some (4, 1)) : CtW [(0, 9, 12, 18)] yL_door cL_door 4 (some .int) (d2 + 1) mc ms [.ref o, .int a0, .ref (o + 125)] n kd I J P (pWv o n kd I J P 1 v C) := by
  refine ctw_of 1 (by decide +kernel) (Nat.le_of_ble_eq_true rfl) rfl ?_
  refine r_aload_n dL_door_0 rfl ?_
  refine r_iconst (v := nI 0) dL_door_1 (by decide) ?_
  refine r_aload_n dL_door_2 rfl ?_
  refine r_iload_n dL_door_3 rfl ?_
  refine r_virtC (kc2 := 0) (ks2 := 0) rfl hC lk_L_73 mc_X9_door dL_door_4 hk (by omega) rfl rfl (Nat.le_of_ble_eq_true rfl) (by omega) (by omega) (fun E n1 kd1 I1 J1 P1 h => ?_) (fun y n1 kd1 I1 J1 P1 h => nomatch h.1)
  have hE : E = "java/util/NoSuchElementException" := Sum.inr.inj h.1
  subst hE
  exact ⟨nI 1, ⟨by decide, [], ⟨0, 9, 12, 18⟩, [], rfl, (fun z hz => nomatch hz), by decide, by decide, cl_L_18, 1, Or.inl ⟨3, dL_door_12, by decide, rfl⟩, ⟨1, dL_door_13, rfl⟩, dL_door_14⟩, pWv.of (by decide) h⟩

theorem dL_ring_0 : decode cL_ring 0 = .ok (.aload_n 3, 1) := by decide +kernel
theorem dL_ring_1 : decode cL_ring 1 = .ok (.iconst 0, 1) := by decide +kernel
theorem dL_ring_2 : decode cL_ring 2 = .ok (.aload_n 0, 1) := by decide +kernel
theorem dL_ring_3 : decode cL_ring 3 = .ok (.iload_n 1, 1) := by decide +kernel
theorem dL_ring_4 : decode cL_ring 4 = .ok (.iload_n 2, 1) := by decide +kernel
theorem dL_ring_5 : decode cL_ring 5 = .ok (.invokevirtual 76, 3) := by decide +kernel
theorem dL_ring_8 : decode cL_ring 8 = .ok (.i2l, 1) := by decide +kernel
theorem dL_ring_9 : decode cL_ring 9 = .ok (.lastore, 1) := by decide +kernel
theorem dL_ring_10 : decode cL_ring 10 = .ok (.goto 7, 3) := by decide +kernel
theorem dL_ring_13 : decode cL_ring 13 = .ok (.astore 4, 2) := by decide +kernel
theorem dL_ring_15 : decode cL_ring 15 = .ok (.iconst 1, 1) := by decide +kernel
theorem dL_ring_16 : decode cL_ring 16 = .ok (.ireturn, 1) := by decide +kernel
theorem dL_ring_17 : decode cL_ring 17 = .ok (.iconst 0, 1) := by decide +kernel
theorem dL_ring_18 : decode cL_ring 18 = .ok (.ireturn, 1) := by decide +kernel

set_option maxHeartbeats 4000000 in
set_option maxRecDepth 100000 in
theorem v_ring_0 (o : Nat) (a0 : Int32) (a1 : Int32) (v : Int32) {n : Nat} {kd : mK} {I : mI} {J : mJ} {P : mP} {C : Nat → mK → mI → mJ → mP → Prop} {d2 mc ms : Nat} (hT : Tr o C) (hC : Ct yX9_ring cX9_ring 4 (some .int) d2 mc ms [.ref o, .int a0, .int a1] n kd I J P (pK o n kd I J P (.inl (some (.int v))) C)) (hk : kd o = some (0, 9)) (hout : kd (o + 125) = some (4, 1)) : CtW [(0, 10, 13, 18)] yL_ring cL_ring 5 (some .int) (d2 + 1) mc ms [.ref o, .int a0, .int a1, .ref (o + 125)] n kd I J P (pWv o n kd I J P 0 v.toInt64 C) := by
  refine ctw_of 1 (by decide +kernel) (Nat.le_of_ble_eq_true rfl) rfl ?_
  refine r_aload_n dL_ring_0 rfl ?_
  refine r_iconst (v := nI 0) dL_ring_1 (by decide) ?_
  refine r_aload_n dL_ring_2 rfl ?_
  refine r_iload_n dL_ring_3 rfl ?_
  refine r_iload_n dL_ring_4 rfl ?_
  refine r_virtC (kc2 := 0) (ks2 := 0) rfl hC lk_L_76 mc_X9_ring dL_ring_5 hk (by omega) rfl rfl (Nat.le_of_ble_eq_true rfl) (by omega) (by omega) (fun E n1 kd1 I1 J1 P1 h => nomatch h.1) (fun y n1 kd1 I1 J1 P1 h => ?_)
  obtain ⟨v1, hc⟩ : ∃ y, pK o n kd I J P (.inl (some (.int v))) C y n1 kd1 I1 J1 P1 := ⟨_, h⟩
  cases h.1
  simp only [Option.toList, List.cons_append, List.nil_append]
  have ho1 : kd1 (o + 125) = some (4, 1) := by rw [(h.2.2.2.1 (o + 125) (by omega) (by omega)).1]; exact hout
  refine r_i2l dL_ring_8 ?_
  refine r_last dL_ring_9 ho1 (nI_in8 1 (j := 0) (by decide) (by decide)) (nI_clamp (n := 0) (by decide)) ?_
  refine r_goto (tgt := 17) dL_ring_10 (by decide) ?_
  refine r_iconst (v := nI 0) dL_ring_17 (by decide) ?_
  refine r_iret rfl dL_ring_18 ?_
  exact pWv.ok hT (by rw [am_up_s]) hc

set_option maxHeartbeats 4000000 in
set_option maxRecDepth 100000 in
theorem v_ring_1 (o : Nat) (a0 : Int32) (a1 : Int32) (v : Int64) {n : Nat} {kd : mK} {I : mI} {J : mJ} {P : mP} {C : Nat → mK → mI → mJ → mP → Prop} {d2 mc ms : Nat} (hT : Tr o C) (hC : Ct yX9_ring cX9_ring 4 (some .int) d2 mc ms [.ref o, .int a0, .int a1] n kd I J P (pK o n kd I J P (.inr "java/util/NoSuchElementException") C)) (hk : kd o = some (0, 9)) (hout : kd (o + 125) = some (4, 1)) : CtW [(0, 10, 13, 18)] yL_ring cL_ring 5 (some .int) (d2 + 1) mc ms [.ref o, .int a0, .int a1, .ref (o + 125)] n kd I J P (pWv o n kd I J P 1 v C) := by
  refine ctw_of 1 (by decide +kernel) (Nat.le_of_ble_eq_true rfl) rfl ?_
  refine r_aload_n dL_ring_0 rfl ?_
  refine r_iconst (v := nI 0) dL_ring_1 (by decide) ?_
  refine r_aload_n dL_ring_2 rfl ?_
  refine r_iload_n dL_ring_3 rfl ?_
  refine r_iload_n dL_ring_4 rfl ?_
  refine r_virtC (kc2 := 0) (ks2 := 0) rfl hC lk_L_76 mc_X9_ring dL_ring_5 hk (by omega) rfl rfl (Nat.le_of_ble_eq_true rfl) (by omega) (by omega) (fun E n1 kd1 I1 J1 P1 h => ?_) (fun y n1 kd1 I1 J1 P1 h => nomatch h.1)
  have hE : E = "java/util/NoSuchElementException" := Sum.inr.inj h.1
  subst hE
  exact ⟨nI 1, ⟨by decide, [], ⟨0, 10, 13, 18⟩, [], rfl, (fun z hz => nomatch hz), by decide, by decide, cl_L_18, 2, Or.inr ⟨4, dL_ring_13, by decide, rfl⟩, ⟨1, dL_ring_15, rfl⟩, dL_ring_16⟩, pWv.of (by decide) h⟩

theorem dL_written_0 : decode cL_written 0 = .ok (.aload_n 2, 1) := by decide +kernel
theorem dL_written_1 : decode cL_written 1 = .ok (.iconst 0, 1) := by decide +kernel
theorem dL_written_2 : decode cL_written 2 = .ok (.aload_n 0, 1) := by decide +kernel
theorem dL_written_3 : decode cL_written 3 = .ok (.iload_n 1, 1) := by decide +kernel
theorem dL_written_4 : decode cL_written 4 = .ok (.invokevirtual 79, 3) := by decide +kernel
theorem dL_written_7 : decode cL_written 7 = .ok (.i2l, 1) := by decide +kernel
theorem dL_written_8 : decode cL_written 8 = .ok (.lastore, 1) := by decide +kernel
theorem dL_written_9 : decode cL_written 9 = .ok (.goto 6, 3) := by decide +kernel
theorem dL_written_12 : decode cL_written 12 = .ok (.astore_n 3, 1) := by decide +kernel
theorem dL_written_13 : decode cL_written 13 = .ok (.iconst 1, 1) := by decide +kernel
theorem dL_written_14 : decode cL_written 14 = .ok (.ireturn, 1) := by decide +kernel
theorem dL_written_15 : decode cL_written 15 = .ok (.iconst 0, 1) := by decide +kernel
theorem dL_written_16 : decode cL_written 16 = .ok (.ireturn, 1) := by decide +kernel

set_option maxHeartbeats 4000000 in
set_option maxRecDepth 100000 in
theorem v_written_0 (o : Nat) (a0 : Int32) (v : Int32) {n : Nat} {kd : mK} {I : mI} {J : mJ} {P : mP} {C : Nat → mK → mI → mJ → mP → Prop} {d2 mc ms : Nat} (hT : Tr o C) (hC : Ct yX9_written cX9_written 2 (some .int) d2 mc ms [.ref o, .int a0] n kd I J P (pK o n kd I J P (.inl (some (.int v))) C)) (hk : kd o = some (0, 9)) (hout : kd (o + 125) = some (4, 1)) : CtW [(0, 9, 12, 18)] yL_written cL_written 4 (some .int) (d2 + 1) mc ms [.ref o, .int a0, .ref (o + 125)] n kd I J P (pWv o n kd I J P 0 v.toInt64 C) := by
  refine ctw_of 1 (by decide +kernel) (Nat.le_of_ble_eq_true rfl) rfl ?_
  refine r_aload_n dL_written_0 rfl ?_
  refine r_iconst (v := nI 0) dL_written_1 (by decide) ?_
  refine r_aload_n dL_written_2 rfl ?_
  refine r_iload_n dL_written_3 rfl ?_
  refine r_virtC (kc2 := 0) (ks2 := 0) rfl hC lk_L_79 mc_X9_written dL_written_4 hk (by omega) rfl rfl (Nat.le_of_ble_eq_true rfl) (by omega) (by omega) (fun E n1 kd1 I1 J1 P1 h => nomatch h.1) (fun y n1 kd1 I1 J1 P1 h => ?_)
  obtain ⟨v1, hc⟩ : ∃ y, pK o n kd I J P (.inl (some (.int v))) C y n1 kd1 I1 J1 P1 := ⟨_, h⟩
  cases h.1
  simp only [Option.toList, List.cons_append, List.nil_append]
  have ho1 : kd1 (o + 125) = some (4, 1) := by rw [(h.2.2.2.1 (o + 125) (by omega) (by omega)).1]; exact hout
  refine r_i2l dL_written_7 ?_
  refine r_last dL_written_8 ho1 (nI_in8 1 (j := 0) (by decide) (by decide)) (nI_clamp (n := 0) (by decide)) ?_
  refine r_goto (tgt := 15) dL_written_9 (by decide) ?_
  refine r_iconst (v := nI 0) dL_written_15 (by decide) ?_
  refine r_iret rfl dL_written_16 ?_
  exact pWv.ok hT (by rw [am_up_s]) hc

set_option maxHeartbeats 4000000 in
set_option maxRecDepth 100000 in
theorem v_written_1 (o : Nat) (a0 : Int32) (v : Int64) {n : Nat} {kd : mK} {I : mI} {J : mJ} {P : mP} {C : Nat → mK → mI → mJ → mP → Prop} {d2 mc ms : Nat} (hT : Tr o C) (hC : Ct yX9_written cX9_written 2 (some .int) d2 mc ms [.ref o, .int a0] n kd I J P (pK o n kd I J P (.inr "java/util/NoSuchElementException") C)) (hk : kd o = some (0, 9)) (hout : kd (o + 125) = some (4, 1)) : CtW [(0, 9, 12, 18)] yL_written cL_written 4 (some .int) (d2 + 1) mc ms [.ref o, .int a0, .ref (o + 125)] n kd I J P (pWv o n kd I J P 1 v C) := by
  refine ctw_of 1 (by decide +kernel) (Nat.le_of_ble_eq_true rfl) rfl ?_
  refine r_aload_n dL_written_0 rfl ?_
  refine r_iconst (v := nI 0) dL_written_1 (by decide) ?_
  refine r_aload_n dL_written_2 rfl ?_
  refine r_iload_n dL_written_3 rfl ?_
  refine r_virtC (kc2 := 0) (ks2 := 0) rfl hC lk_L_79 mc_X9_written dL_written_4 hk (by omega) rfl rfl (Nat.le_of_ble_eq_true rfl) (by omega) (by omega) (fun E n1 kd1 I1 J1 P1 h => ?_) (fun y n1 kd1 I1 J1 P1 h => nomatch h.1)
  have hE : E = "java/util/NoSuchElementException" := Sum.inr.inj h.1
  subst hE
  exact ⟨nI 1, ⟨by decide, [], ⟨0, 9, 12, 18⟩, [], rfl, (fun z hz => nomatch hz), by decide, by decide, cl_L_18, 1, Or.inl ⟨3, dL_written_12, by decide, rfl⟩, ⟨1, dL_written_13, rfl⟩, dL_written_14⟩, pWv.of (by decide) h⟩

theorem dL_left_0 : decode cL_left 0 = .ok (.aload_n 3, 1) := by decide +kernel
theorem dL_left_1 : decode cL_left 1 = .ok (.iconst 0, 1) := by decide +kernel
theorem dL_left_2 : decode cL_left 2 = .ok (.aload_n 0, 1) := by decide +kernel
theorem dL_left_3 : decode cL_left 3 = .ok (.iload_n 1, 1) := by decide +kernel
theorem dL_left_4 : decode cL_left 4 = .ok (.iload_n 2, 1) := by decide +kernel
theorem dL_left_5 : decode cL_left 5 = .ok (.invokevirtual 82, 3) := by decide +kernel
theorem dL_left_8 : decode cL_left 8 = .ok (.i2l, 1) := by decide +kernel
theorem dL_left_9 : decode cL_left 9 = .ok (.lastore, 1) := by decide +kernel
theorem dL_left_10 : decode cL_left 10 = .ok (.goto 11, 3) := by decide +kernel
theorem dL_left_13 : decode cL_left 13 = .ok (.astore 4, 2) := by decide +kernel
theorem dL_left_15 : decode cL_left 15 = .ok (.iconst 1, 1) := by decide +kernel
theorem dL_left_16 : decode cL_left 16 = .ok (.ireturn, 1) := by decide +kernel
theorem dL_left_17 : decode cL_left 17 = .ok (.astore 4, 2) := by decide +kernel
theorem dL_left_19 : decode cL_left 19 = .ok (.iconst 2, 1) := by decide +kernel
theorem dL_left_20 : decode cL_left 20 = .ok (.ireturn, 1) := by decide +kernel
theorem dL_left_21 : decode cL_left 21 = .ok (.iconst 0, 1) := by decide +kernel
theorem dL_left_22 : decode cL_left 22 = .ok (.ireturn, 1) := by decide +kernel

set_option maxHeartbeats 4000000 in
set_option maxRecDepth 100000 in
theorem v_left_0 (o : Nat) (a0 : Int32) (a1 : Int32) (v : Int32) {n : Nat} {kd : mK} {I : mI} {J : mJ} {P : mP} {C : Nat → mK → mI → mJ → mP → Prop} {d2 mc ms : Nat} (hT : Tr o C) (hC : Ct yX9_left cX9_left 3 (some .int) d2 mc ms [.ref o, .int a0, .int a1] n kd I J P (pK o n kd I J P (.inl (some (.int v))) C)) (hk : kd o = some (0, 9)) (hout : kd (o + 125) = some (4, 1)) : CtW [(0, 10, 13, 18), (0, 10, 17, 13)] yL_left cL_left 5 (some .int) (d2 + 1) mc ms [.ref o, .int a0, .int a1, .ref (o + 125)] n kd I J P (pWv o n kd I J P 0 v.toInt64 C) := by
  refine ctw_of 1 (by decide +kernel) (Nat.le_of_ble_eq_true rfl) rfl ?_
  refine r_aload_n dL_left_0 rfl ?_
  refine r_iconst (v := nI 0) dL_left_1 (by decide) ?_
  refine r_aload_n dL_left_2 rfl ?_
  refine r_iload_n dL_left_3 rfl ?_
  refine r_iload_n dL_left_4 rfl ?_
  refine r_virtC (kc2 := 0) (ks2 := 0) rfl hC lk_L_82 mc_X9_left dL_left_5 hk (by omega) rfl rfl (Nat.le_of_ble_eq_true rfl) (by omega) (by omega) (fun E n1 kd1 I1 J1 P1 h => nomatch h.1) (fun y n1 kd1 I1 J1 P1 h => ?_)
  obtain ⟨v1, hc⟩ : ∃ y, pK o n kd I J P (.inl (some (.int v))) C y n1 kd1 I1 J1 P1 := ⟨_, h⟩
  cases h.1
  simp only [Option.toList, List.cons_append, List.nil_append]
  have ho1 : kd1 (o + 125) = some (4, 1) := by rw [(h.2.2.2.1 (o + 125) (by omega) (by omega)).1]; exact hout
  refine r_i2l dL_left_8 ?_
  refine r_last dL_left_9 ho1 (nI_in8 1 (j := 0) (by decide) (by decide)) (nI_clamp (n := 0) (by decide)) ?_
  refine r_goto (tgt := 21) dL_left_10 (by decide) ?_
  refine r_iconst (v := nI 0) dL_left_21 (by decide) ?_
  refine r_iret rfl dL_left_22 ?_
  exact pWv.ok hT (by rw [am_up_s]) hc

set_option maxHeartbeats 4000000 in
set_option maxRecDepth 100000 in
theorem v_left_1 (o : Nat) (a0 : Int32) (a1 : Int32) (v : Int64) {n : Nat} {kd : mK} {I : mI} {J : mJ} {P : mP} {C : Nat → mK → mI → mJ → mP → Prop} {d2 mc ms : Nat} (hT : Tr o C) (hC : Ct yX9_left cX9_left 3 (some .int) d2 mc ms [.ref o, .int a0, .int a1] n kd I J P (pK o n kd I J P (.inr "java/util/NoSuchElementException") C)) (hk : kd o = some (0, 9)) (hout : kd (o + 125) = some (4, 1)) : CtW [(0, 10, 13, 18), (0, 10, 17, 13)] yL_left cL_left 5 (some .int) (d2 + 1) mc ms [.ref o, .int a0, .int a1, .ref (o + 125)] n kd I J P (pWv o n kd I J P 1 v C) := by
  refine ctw_of 1 (by decide +kernel) (Nat.le_of_ble_eq_true rfl) rfl ?_
  refine r_aload_n dL_left_0 rfl ?_
  refine r_iconst (v := nI 0) dL_left_1 (by decide) ?_
  refine r_aload_n dL_left_2 rfl ?_
  refine r_iload_n dL_left_3 rfl ?_
  refine r_iload_n dL_left_4 rfl ?_
  refine r_virtC (kc2 := 0) (ks2 := 0) rfl hC lk_L_82 mc_X9_left dL_left_5 hk (by omega) rfl rfl (Nat.le_of_ble_eq_true rfl) (by omega) (by omega) (fun E n1 kd1 I1 J1 P1 h => ?_) (fun y n1 kd1 I1 J1 P1 h => nomatch h.1)
  have hE : E = "java/util/NoSuchElementException" := Sum.inr.inj h.1
  subst hE
  exact ⟨nI 1, ⟨by decide, [], ⟨0, 10, 13, 18⟩, [⟨0, 10, 17, 13⟩], rfl, (fun z hz => nomatch hz), by decide, by decide, cl_L_18, 2, Or.inr ⟨4, dL_left_13, by decide, rfl⟩, ⟨1, dL_left_15, rfl⟩, dL_left_16⟩, pWv.of (by decide) h⟩

set_option maxHeartbeats 4000000 in
set_option maxRecDepth 100000 in
theorem v_left_2 (o : Nat) (a0 : Int32) (a1 : Int32) (v : Int64) {n : Nat} {kd : mK} {I : mI} {J : mJ} {P : mP} {C : Nat → mK → mI → mJ → mP → Prop} {d2 mc ms : Nat} (hT : Tr o C) (hC : Ct yX9_left cX9_left 3 (some .int) d2 mc ms [.ref o, .int a0, .int a1] n kd I J P (pK o n kd I J P (.inr "java/lang/IllegalArgumentException") C)) (hk : kd o = some (0, 9)) (hout : kd (o + 125) = some (4, 1)) : CtW [(0, 10, 13, 18), (0, 10, 17, 13)] yL_left cL_left 5 (some .int) (d2 + 1) mc ms [.ref o, .int a0, .int a1, .ref (o + 125)] n kd I J P (pWv o n kd I J P 2 v C) := by
  refine ctw_of 1 (by decide +kernel) (Nat.le_of_ble_eq_true rfl) rfl ?_
  refine r_aload_n dL_left_0 rfl ?_
  refine r_iconst (v := nI 0) dL_left_1 (by decide) ?_
  refine r_aload_n dL_left_2 rfl ?_
  refine r_iload_n dL_left_3 rfl ?_
  refine r_iload_n dL_left_4 rfl ?_
  refine r_virtC (kc2 := 0) (ks2 := 0) rfl hC lk_L_82 mc_X9_left dL_left_5 hk (by omega) rfl rfl (Nat.le_of_ble_eq_true rfl) (by omega) (by omega) (fun E n1 kd1 I1 J1 P1 h => ?_) (fun y n1 kd1 I1 J1 P1 h => nomatch h.1)
  have hE : E = "java/lang/IllegalArgumentException" := Sum.inr.inj h.1
  subst hE
  exact ⟨nI 2, ⟨by decide, [⟨0, 10, 13, 18⟩], ⟨0, 10, 17, 13⟩, [], rfl, (fun z hz => by rcases List.mem_cons.mp hz with e | e; subst e; exact ⟨by decide, rfl, cl_L_18⟩; exact nomatch e), by decide, by decide, cl_L_13, 2, Or.inr ⟨4, dL_left_17, by decide, rfl⟩, ⟨2, dL_left_19, rfl⟩, dL_left_20⟩, pWv.of (by decide) h⟩

theorem dL_look_0 : decode cL_look 0 = .ok (.aload_n 3, 1) := by decide +kernel
theorem dL_look_1 : decode cL_look 1 = .ok (.iconst 0, 1) := by decide +kernel
theorem dL_look_2 : decode cL_look 2 = .ok (.aload_n 0, 1) := by decide +kernel
theorem dL_look_3 : decode cL_look 3 = .ok (.iload_n 1, 1) := by decide +kernel
theorem dL_look_4 : decode cL_look 4 = .ok (.iload_n 2, 1) := by decide +kernel
theorem dL_look_5 : decode cL_look 5 = .ok (.invokevirtual 85, 3) := by decide +kernel
theorem dL_look_8 : decode cL_look 8 = .ok (.i2l, 1) := by decide +kernel
theorem dL_look_9 : decode cL_look 9 = .ok (.lastore, 1) := by decide +kernel
theorem dL_look_10 : decode cL_look 10 = .ok (.goto 7, 3) := by decide +kernel
theorem dL_look_13 : decode cL_look 13 = .ok (.astore 4, 2) := by decide +kernel
theorem dL_look_15 : decode cL_look 15 = .ok (.iconst 1, 1) := by decide +kernel
theorem dL_look_16 : decode cL_look 16 = .ok (.ireturn, 1) := by decide +kernel
theorem dL_look_17 : decode cL_look 17 = .ok (.iconst 0, 1) := by decide +kernel
theorem dL_look_18 : decode cL_look 18 = .ok (.ireturn, 1) := by decide +kernel

set_option maxHeartbeats 4000000 in
set_option maxRecDepth 100000 in
theorem v_look_0 (o : Nat) (a0 : Int32) (a1 : Int32) (v : Int32) {n : Nat} {kd : mK} {I : mI} {J : mJ} {P : mP} {C : Nat → mK → mI → mJ → mP → Prop} {d2 mc ms : Nat} (hT : Tr o C) (hC : Ct yX9_look cX9_look 7 (some .int) d2 mc ms [.ref o, .int a0, .int a1] n kd I J P (pK o n kd I J P (.inl (some (.int v))) C)) (hk : kd o = some (0, 9)) (hout : kd (o + 125) = some (4, 1)) : CtW [(0, 10, 13, 18)] yL_look cL_look 5 (some .int) (d2 + 1) mc ms [.ref o, .int a0, .int a1, .ref (o + 125)] n kd I J P (pWv o n kd I J P 0 v.toInt64 C) := by
  refine ctw_of 1 (by decide +kernel) (Nat.le_of_ble_eq_true rfl) rfl ?_
  refine r_aload_n dL_look_0 rfl ?_
  refine r_iconst (v := nI 0) dL_look_1 (by decide) ?_
  refine r_aload_n dL_look_2 rfl ?_
  refine r_iload_n dL_look_3 rfl ?_
  refine r_iload_n dL_look_4 rfl ?_
  refine r_virtC (kc2 := 0) (ks2 := 0) rfl hC lk_L_85 mc_X9_look dL_look_5 hk (by omega) rfl rfl (Nat.le_of_ble_eq_true rfl) (by omega) (by omega) (fun E n1 kd1 I1 J1 P1 h => nomatch h.1) (fun y n1 kd1 I1 J1 P1 h => ?_)
  obtain ⟨v1, hc⟩ : ∃ y, pK o n kd I J P (.inl (some (.int v))) C y n1 kd1 I1 J1 P1 := ⟨_, h⟩
  cases h.1
  simp only [Option.toList, List.cons_append, List.nil_append]
  have ho1 : kd1 (o + 125) = some (4, 1) := by rw [(h.2.2.2.1 (o + 125) (by omega) (by omega)).1]; exact hout
  refine r_i2l dL_look_8 ?_
  refine r_last dL_look_9 ho1 (nI_in8 1 (j := 0) (by decide) (by decide)) (nI_clamp (n := 0) (by decide)) ?_
  refine r_goto (tgt := 17) dL_look_10 (by decide) ?_
  refine r_iconst (v := nI 0) dL_look_17 (by decide) ?_
  refine r_iret rfl dL_look_18 ?_
  exact pWv.ok hT (by rw [am_up_s]) hc

set_option maxHeartbeats 4000000 in
set_option maxRecDepth 100000 in
theorem v_look_1 (o : Nat) (a0 : Int32) (a1 : Int32) (v : Int64) {n : Nat} {kd : mK} {I : mI} {J : mJ} {P : mP} {C : Nat → mK → mI → mJ → mP → Prop} {d2 mc ms : Nat} (hT : Tr o C) (hC : Ct yX9_look cX9_look 7 (some .int) d2 mc ms [.ref o, .int a0, .int a1] n kd I J P (pK o n kd I J P (.inr "java/util/NoSuchElementException") C)) (hk : kd o = some (0, 9)) (hout : kd (o + 125) = some (4, 1)) : CtW [(0, 10, 13, 18)] yL_look cL_look 5 (some .int) (d2 + 1) mc ms [.ref o, .int a0, .int a1, .ref (o + 125)] n kd I J P (pWv o n kd I J P 1 v C) := by
  refine ctw_of 1 (by decide +kernel) (Nat.le_of_ble_eq_true rfl) rfl ?_
  refine r_aload_n dL_look_0 rfl ?_
  refine r_iconst (v := nI 0) dL_look_1 (by decide) ?_
  refine r_aload_n dL_look_2 rfl ?_
  refine r_iload_n dL_look_3 rfl ?_
  refine r_iload_n dL_look_4 rfl ?_
  refine r_virtC (kc2 := 0) (ks2 := 0) rfl hC lk_L_85 mc_X9_look dL_look_5 hk (by omega) rfl rfl (Nat.le_of_ble_eq_true rfl) (by omega) (by omega) (fun E n1 kd1 I1 J1 P1 h => ?_) (fun y n1 kd1 I1 J1 P1 h => nomatch h.1)
  have hE : E = "java/util/NoSuchElementException" := Sum.inr.inj h.1
  subst hE
  exact ⟨nI 1, ⟨by decide, [], ⟨0, 10, 13, 18⟩, [], rfl, (fun z hz => nomatch hz), by decide, by decide, cl_L_18, 2, Or.inr ⟨4, dL_look_13, by decide, rfl⟩, ⟨1, dL_look_15, rfl⟩, dL_look_16⟩, pWv.of (by decide) h⟩

theorem dL_plant_0 : decode cL_plant 0 = .ok (.aload_n 3, 1) := by decide +kernel
theorem dL_plant_1 : decode cL_plant 1 = .ok (.iconst 0, 1) := by decide +kernel
theorem dL_plant_2 : decode cL_plant 2 = .ok (.aload_n 0, 1) := by decide +kernel
theorem dL_plant_3 : decode cL_plant 3 = .ok (.iload_n 1, 1) := by decide +kernel
theorem dL_plant_4 : decode cL_plant 4 = .ok (.iload_n 2, 1) := by decide +kernel
theorem dL_plant_5 : decode cL_plant 5 = .ok (.invokevirtual 88, 3) := by decide +kernel
theorem dL_plant_8 : decode cL_plant 8 = .ok (.i2l, 1) := by decide +kernel
theorem dL_plant_9 : decode cL_plant 9 = .ok (.lastore, 1) := by decide +kernel
theorem dL_plant_10 : decode cL_plant 10 = .ok (.goto 7, 3) := by decide +kernel
theorem dL_plant_13 : decode cL_plant 13 = .ok (.astore 4, 2) := by decide +kernel
theorem dL_plant_15 : decode cL_plant 15 = .ok (.iconst 1, 1) := by decide +kernel
theorem dL_plant_16 : decode cL_plant 16 = .ok (.ireturn, 1) := by decide +kernel
theorem dL_plant_17 : decode cL_plant 17 = .ok (.iconst 0, 1) := by decide +kernel
theorem dL_plant_18 : decode cL_plant 18 = .ok (.ireturn, 1) := by decide +kernel

set_option maxHeartbeats 4000000 in
set_option maxRecDepth 100000 in
theorem v_plant_0 (o : Nat) (a0 : Int32) (a1 : Int32) (v : Int32) {n : Nat} {kd : mK} {I : mI} {J : mJ} {P : mP} {C : Nat → mK → mI → mJ → mP → Prop} {d2 mc ms : Nat} (hT : Tr o C) (hC : Ct yX9_plant cX9_plant 3 (some .int) d2 mc ms [.ref o, .int a0, .int a1] n kd I J P (pK o n kd I J P (.inl (some (.int v))) C)) (hk : kd o = some (0, 9)) (hout : kd (o + 125) = some (4, 1)) : CtW [(0, 10, 13, 13)] yL_plant cL_plant 5 (some .int) (d2 + 1) mc ms [.ref o, .int a0, .int a1, .ref (o + 125)] n kd I J P (pWv o n kd I J P 0 v.toInt64 C) := by
  refine ctw_of 1 (by decide +kernel) (Nat.le_of_ble_eq_true rfl) rfl ?_
  refine r_aload_n dL_plant_0 rfl ?_
  refine r_iconst (v := nI 0) dL_plant_1 (by decide) ?_
  refine r_aload_n dL_plant_2 rfl ?_
  refine r_iload_n dL_plant_3 rfl ?_
  refine r_iload_n dL_plant_4 rfl ?_
  refine r_virtC (kc2 := 0) (ks2 := 0) rfl hC lk_L_88 mc_X9_plant dL_plant_5 hk (by omega) rfl rfl (Nat.le_of_ble_eq_true rfl) (by omega) (by omega) (fun E n1 kd1 I1 J1 P1 h => nomatch h.1) (fun y n1 kd1 I1 J1 P1 h => ?_)
  obtain ⟨v1, hc⟩ : ∃ y, pK o n kd I J P (.inl (some (.int v))) C y n1 kd1 I1 J1 P1 := ⟨_, h⟩
  cases h.1
  simp only [Option.toList, List.cons_append, List.nil_append]
  have ho1 : kd1 (o + 125) = some (4, 1) := by rw [(h.2.2.2.1 (o + 125) (by omega) (by omega)).1]; exact hout
  refine r_i2l dL_plant_8 ?_
  refine r_last dL_plant_9 ho1 (nI_in8 1 (j := 0) (by decide) (by decide)) (nI_clamp (n := 0) (by decide)) ?_
  refine r_goto (tgt := 17) dL_plant_10 (by decide) ?_
  refine r_iconst (v := nI 0) dL_plant_17 (by decide) ?_
  refine r_iret rfl dL_plant_18 ?_
  exact pWv.ok hT (by rw [am_up_s]) hc

set_option maxHeartbeats 4000000 in
set_option maxRecDepth 100000 in
theorem v_plant_1 (o : Nat) (a0 : Int32) (a1 : Int32) (v : Int64) {n : Nat} {kd : mK} {I : mI} {J : mJ} {P : mP} {C : Nat → mK → mI → mJ → mP → Prop} {d2 mc ms : Nat} (hT : Tr o C) (hC : Ct yX9_plant cX9_plant 3 (some .int) d2 mc ms [.ref o, .int a0, .int a1] n kd I J P (pK o n kd I J P (.inr "java/lang/IllegalArgumentException") C)) (hk : kd o = some (0, 9)) (hout : kd (o + 125) = some (4, 1)) : CtW [(0, 10, 13, 13)] yL_plant cL_plant 5 (some .int) (d2 + 1) mc ms [.ref o, .int a0, .int a1, .ref (o + 125)] n kd I J P (pWv o n kd I J P 1 v C) := by
  refine ctw_of 1 (by decide +kernel) (Nat.le_of_ble_eq_true rfl) rfl ?_
  refine r_aload_n dL_plant_0 rfl ?_
  refine r_iconst (v := nI 0) dL_plant_1 (by decide) ?_
  refine r_aload_n dL_plant_2 rfl ?_
  refine r_iload_n dL_plant_3 rfl ?_
  refine r_iload_n dL_plant_4 rfl ?_
  refine r_virtC (kc2 := 0) (ks2 := 0) rfl hC lk_L_88 mc_X9_plant dL_plant_5 hk (by omega) rfl rfl (Nat.le_of_ble_eq_true rfl) (by omega) (by omega) (fun E n1 kd1 I1 J1 P1 h => ?_) (fun y n1 kd1 I1 J1 P1 h => nomatch h.1)
  have hE : E = "java/lang/IllegalArgumentException" := Sum.inr.inj h.1
  subst hE
  exact ⟨nI 1, ⟨by decide, [], ⟨0, 10, 13, 13⟩, [], rfl, (fun z hz => nomatch hz), by decide, by decide, cl_L_13, 2, Or.inr ⟨4, dL_plant_13, by decide, rfl⟩, ⟨1, dL_plant_15, rfl⟩, dL_plant_16⟩, pWv.of (by decide) h⟩

theorem dL_tried_0 : decode cL_tried 0 = .ok (.aload 5, 2) := by decide +kernel
theorem dL_tried_2 : decode cL_tried 2 = .ok (.iconst 0, 1) := by decide +kernel
theorem dL_tried_3 : decode cL_tried 3 = .ok (.aload_n 0, 1) := by decide +kernel
theorem dL_tried_4 : decode cL_tried 4 = .ok (.iload_n 1, 1) := by decide +kernel
theorem dL_tried_5 : decode cL_tried 5 = .ok (.iload_n 2, 1) := by decide +kernel
theorem dL_tried_6 : decode cL_tried 6 = .ok (.iload_n 3, 1) := by decide +kernel
theorem dL_tried_7 : decode cL_tried 7 = .ok (.iload 4, 2) := by decide +kernel
theorem dL_tried_9 : decode cL_tried 9 = .ok (.invokevirtual 91, 3) := by decide +kernel
theorem dL_tried_12 : decode cL_tried 12 = .ok (.i2l, 1) := by decide +kernel
theorem dL_tried_13 : decode cL_tried 13 = .ok (.lastore, 1) := by decide +kernel
theorem dL_tried_14 : decode cL_tried 14 = .ok (.goto 11, 3) := by decide +kernel
theorem dL_tried_17 : decode cL_tried 17 = .ok (.astore 6, 2) := by decide +kernel
theorem dL_tried_19 : decode cL_tried 19 = .ok (.iconst 1, 1) := by decide +kernel
theorem dL_tried_20 : decode cL_tried 20 = .ok (.ireturn, 1) := by decide +kernel
theorem dL_tried_21 : decode cL_tried 21 = .ok (.astore 6, 2) := by decide +kernel
theorem dL_tried_23 : decode cL_tried 23 = .ok (.iconst 2, 1) := by decide +kernel
theorem dL_tried_24 : decode cL_tried 24 = .ok (.ireturn, 1) := by decide +kernel
theorem dL_tried_25 : decode cL_tried 25 = .ok (.iconst 0, 1) := by decide +kernel
theorem dL_tried_26 : decode cL_tried 26 = .ok (.ireturn, 1) := by decide +kernel

set_option maxHeartbeats 4000000 in
set_option maxRecDepth 100000 in
theorem v_tried_0 (o : Nat) (a0 : Int32) (a1 : Int32) (a2 : Int32) (a3 : Int32) (v : Int32) {n : Nat} {kd : mK} {I : mI} {J : mJ} {P : mP} {C : Nat → mK → mI → mJ → mP → Prop} {d2 mc ms : Nat} (hT : Tr o C) (hC : Ct yX9_tried cX9_tried 10 (some .int) d2 mc ms [.ref o, .int a0, .int a1, .int a2, .int a3] n kd I J P (pK o n kd I J P (.inl (some (.int v))) C)) (hk : kd o = some (0, 9)) (hout : kd (o + 125) = some (4, 1)) : CtW [(0, 14, 17, 18), (0, 14, 21, 13)] yL_tried cL_tried 7 (some .int) (d2 + 1) mc ms [.ref o, .int a0, .int a1, .int a2, .int a3, .ref (o + 125)] n kd I J P (pWv o n kd I J P 0 v.toInt64 C) := by
  refine ctw_of 1 (by decide +kernel) (Nat.le_of_ble_eq_true rfl) rfl ?_
  refine r_aload dL_tried_0 rfl ?_
  refine r_iconst (v := nI 0) dL_tried_2 (by decide) ?_
  refine r_aload_n dL_tried_3 rfl ?_
  refine r_iload_n dL_tried_4 rfl ?_
  refine r_iload_n dL_tried_5 rfl ?_
  refine r_iload_n dL_tried_6 rfl ?_
  refine r_iload dL_tried_7 rfl ?_
  refine r_virtC (kc2 := 0) (ks2 := 0) rfl hC lk_L_91 mc_X9_tried dL_tried_9 hk (by omega) rfl rfl (Nat.le_of_ble_eq_true rfl) (by omega) (by omega) (fun E n1 kd1 I1 J1 P1 h => nomatch h.1) (fun y n1 kd1 I1 J1 P1 h => ?_)
  obtain ⟨v1, hc⟩ : ∃ y, pK o n kd I J P (.inl (some (.int v))) C y n1 kd1 I1 J1 P1 := ⟨_, h⟩
  cases h.1
  simp only [Option.toList, List.cons_append, List.nil_append]
  have ho1 : kd1 (o + 125) = some (4, 1) := by rw [(h.2.2.2.1 (o + 125) (by omega) (by omega)).1]; exact hout
  refine r_i2l dL_tried_12 ?_
  refine r_last dL_tried_13 ho1 (nI_in8 1 (j := 0) (by decide) (by decide)) (nI_clamp (n := 0) (by decide)) ?_
  refine r_goto (tgt := 25) dL_tried_14 (by decide) ?_
  refine r_iconst (v := nI 0) dL_tried_25 (by decide) ?_
  refine r_iret rfl dL_tried_26 ?_
  exact pWv.ok hT (by rw [am_up_s]) hc

set_option maxHeartbeats 4000000 in
set_option maxRecDepth 100000 in
theorem v_tried_1 (o : Nat) (a0 : Int32) (a1 : Int32) (a2 : Int32) (a3 : Int32) (v : Int64) {n : Nat} {kd : mK} {I : mI} {J : mJ} {P : mP} {C : Nat → mK → mI → mJ → mP → Prop} {d2 mc ms : Nat} (hT : Tr o C) (hC : Ct yX9_tried cX9_tried 10 (some .int) d2 mc ms [.ref o, .int a0, .int a1, .int a2, .int a3] n kd I J P (pK o n kd I J P (.inr "java/util/NoSuchElementException") C)) (hk : kd o = some (0, 9)) (hout : kd (o + 125) = some (4, 1)) : CtW [(0, 14, 17, 18), (0, 14, 21, 13)] yL_tried cL_tried 7 (some .int) (d2 + 1) mc ms [.ref o, .int a0, .int a1, .int a2, .int a3, .ref (o + 125)] n kd I J P (pWv o n kd I J P 1 v C) := by
  refine ctw_of 1 (by decide +kernel) (Nat.le_of_ble_eq_true rfl) rfl ?_
  refine r_aload dL_tried_0 rfl ?_
  refine r_iconst (v := nI 0) dL_tried_2 (by decide) ?_
  refine r_aload_n dL_tried_3 rfl ?_
  refine r_iload_n dL_tried_4 rfl ?_
  refine r_iload_n dL_tried_5 rfl ?_
  refine r_iload_n dL_tried_6 rfl ?_
  refine r_iload dL_tried_7 rfl ?_
  refine r_virtC (kc2 := 0) (ks2 := 0) rfl hC lk_L_91 mc_X9_tried dL_tried_9 hk (by omega) rfl rfl (Nat.le_of_ble_eq_true rfl) (by omega) (by omega) (fun E n1 kd1 I1 J1 P1 h => ?_) (fun y n1 kd1 I1 J1 P1 h => nomatch h.1)
  have hE : E = "java/util/NoSuchElementException" := Sum.inr.inj h.1
  subst hE
  exact ⟨nI 1, ⟨by decide, [], ⟨0, 14, 17, 18⟩, [⟨0, 14, 21, 13⟩], rfl, (fun z hz => nomatch hz), by decide, by decide, cl_L_18, 2, Or.inr ⟨6, dL_tried_17, by decide, rfl⟩, ⟨1, dL_tried_19, rfl⟩, dL_tried_20⟩, pWv.of (by decide) h⟩

set_option maxHeartbeats 4000000 in
set_option maxRecDepth 100000 in
theorem v_tried_2 (o : Nat) (a0 : Int32) (a1 : Int32) (a2 : Int32) (a3 : Int32) (v : Int64) {n : Nat} {kd : mK} {I : mI} {J : mJ} {P : mP} {C : Nat → mK → mI → mJ → mP → Prop} {d2 mc ms : Nat} (hT : Tr o C) (hC : Ct yX9_tried cX9_tried 10 (some .int) d2 mc ms [.ref o, .int a0, .int a1, .int a2, .int a3] n kd I J P (pK o n kd I J P (.inr "java/lang/IllegalArgumentException") C)) (hk : kd o = some (0, 9)) (hout : kd (o + 125) = some (4, 1)) : CtW [(0, 14, 17, 18), (0, 14, 21, 13)] yL_tried cL_tried 7 (some .int) (d2 + 1) mc ms [.ref o, .int a0, .int a1, .int a2, .int a3, .ref (o + 125)] n kd I J P (pWv o n kd I J P 2 v C) := by
  refine ctw_of 1 (by decide +kernel) (Nat.le_of_ble_eq_true rfl) rfl ?_
  refine r_aload dL_tried_0 rfl ?_
  refine r_iconst (v := nI 0) dL_tried_2 (by decide) ?_
  refine r_aload_n dL_tried_3 rfl ?_
  refine r_iload_n dL_tried_4 rfl ?_
  refine r_iload_n dL_tried_5 rfl ?_
  refine r_iload_n dL_tried_6 rfl ?_
  refine r_iload dL_tried_7 rfl ?_
  refine r_virtC (kc2 := 0) (ks2 := 0) rfl hC lk_L_91 mc_X9_tried dL_tried_9 hk (by omega) rfl rfl (Nat.le_of_ble_eq_true rfl) (by omega) (by omega) (fun E n1 kd1 I1 J1 P1 h => ?_) (fun y n1 kd1 I1 J1 P1 h => nomatch h.1)
  have hE : E = "java/lang/IllegalArgumentException" := Sum.inr.inj h.1
  subst hE
  exact ⟨nI 2, ⟨by decide, [⟨0, 14, 17, 18⟩], ⟨0, 14, 21, 13⟩, [], rfl, (fun z hz => by rcases List.mem_cons.mp hz with e | e; subst e; exact ⟨by decide, rfl, cl_L_18⟩; exact nomatch e), by decide, by decide, cl_L_13, 2, Or.inr ⟨6, dL_tried_21, by decide, rfl⟩, ⟨2, dL_tried_23, rfl⟩, dL_tried_24⟩, pWv.of (by decide) h⟩

