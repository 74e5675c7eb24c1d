/-! STREET: the reference's row of waiting acts -/
def dFr (m : Nat) (I I' : mI) : Prop := (∀ a, a ≠ m → a ≠ m + 20 → I' a = I a) ∧ (∀ j, j ≠ 30 → j ≠ 31 → I' m j = I m j)
theorem dFr.rf {m : Nat} {I : mI} : dFr m I I := ⟨fun _ _ _ => rfl, fun _ _ _ => rfl⟩
theorem dFr.tr {m : Nat} {I I1 I2 : mI} (h : dFr m I I1) (g : dFr m I1 I2) : dFr m I I2 := ⟨fun a x y => (g.1 a x y).trans (h.1 a x y), fun j x y => (g.2 j x y).trans (h.2 j x y)⟩
theorem puI_fr {m k : Nat} {x : Int32} {I : mI} : dFr m I (puI m k x I) := ⟨fun a h1 h2 => by unfold puI; rw [am_up_n _ _ h1, am_up_n _ _ h2], fun j h1 h2 => by unfold puI; rw [am_up_s, am_up_n _ _ h1]⟩
theorem puI_30 {m k : Nat} {x : Int32} {I : mI} : puI m k x I m 30 = nI (k + 1) := by unfold puI; rw [am_up_s, am_up_s]
theorem puI_20 {m k : Nat} {x : Int32} {I : mI} : puI m k x I (m + 20) = va_up (I (m + 20)) k x := by unfold puI; rw [am_up_n _ _ (by omega), am_up_s]
theorem puI_31 {m k : Nat} {x : Int32} {I : mI} : puI m k x I m 31 = I m 31 := by unfold puI; rw [am_up_s, am_up_n _ _ (by decide)]
theorem waI_31 {m k : Nat} {x : Int32} {I : mI} : waI m k x I m 31 = nI (k + 1) := by unfold waI; rw [am_up_s, am_up_s]
theorem waI_21 {m k : Nat} {x : Int32} {I : mI} : waI m k x I (m + 21) = va_up (I (m + 21)) k x := by unfold waI; rw [am_up_n _ _ (by omega), am_up_s]
theorem waI_o {m k j : Nat} {x : Int32} {I : mI} (h : j ≠ 31) : waI m k x I m j = I m j := by unfold waI; rw [am_up_s, am_up_n _ _ h]
theorem waI_a {m k a : Nat} {x : Int32} {I : mI} (h1 : a ≠ m) (h2 : a ≠ m + 21) : waI m k x I a = I a := by unfold waI; rw [am_up_n _ _ h1, am_up_n _ _ h2]
theorem opI_op {x : Nat} (h : ¬ x = 0) : opI x = nI (opw x) := by unfold opI; rw [if_neg h]
/-- an act more that waits -/
theorem eW.push {m x : Nat} {I : mI} {w : List Nat} (hx : x = 0 ∨ (20003 ≤ x ∧ x < 20012)) (h : eW m I w) : eW m (waI m w.length (opI x) I) (x :: w) := by
  obtain ⟨h1, h2, h3⟩ := h
  refine ⟨waI_31, ?_, fun y hy => ?_⟩
  · rw [waI_21]
    show va_up (I (m + 21)) w.length (opI x) (w.map opI).length = opI x ∧ sr (va_up (I (m + 21)) w.length (opI x)) (w.map opI)
    rw [List.length_map, am_up_s]
    exact ⟨rfl, sr_up (by rw [List.length_map]; exact Nat.le_refl _) h2⟩
  · rcases List.mem_cons.mp hy with q | q
    · rw [q]; exact hx
    · exact h3 y q
theorem eW.cg {m : Nat} {I I' : mI} {w : List Nat} (h1 : I' m 31 = I m 31) (h2 : I' (m + 21) = I (m + 21)) (h : eW m I w) : eW m I' w := by
  unfold eW
  rw [h1, h2]
  exact h
theorem eC.cg {m a0 top : Nat} {C0 : Nat → Int32} {I I' : mI} {out : List Nat} (h1 : I' m 30 = I m 30) (h2 : I' (m + 20) = I (m + 20)) (h : eC m a0 C0 I out top) : eC m a0 C0 I' out top := by
  unfold eC
  rw [h1, h2]
  exact h
theorem eD.cg {m dp : Nat} {te : Nat → Bool} {I I' : mI} (h1 : I' m 32 = I m 32) (h2 : I' (m + 22) = I (m + 22)) (h : eD m I dp te) : eD m I' dp te := by
  unfold eD
  rw [h1, h2]
  exact h
/-- an act put out -/
theorem eC.op {m a0 top x : Nat} {C0 : Nat → Int32} {I : mI} {out : List Nat} (hx : 20003 ≤ x) (h : eC m a0 C0 I out top) : eC m a0 C0 (puI m top (nI (opw x)) I) (out ++ [x]) (top + 1) := by
  obtain ⟨h1, h2, h3, h4⟩ := h
  refine ⟨puI_30, ?_, fun k hk => ?_, by omega⟩
  · rw [puI_20]
    exact rcT_o (by omega) out a0 top (fun k hk => am_up_n _ _ (by omega)) (am_up_s _ _ _) h2
  · rw [puI_20, am_up_n _ _ (by omega)]
    exact h3 k hk
/-- a value put out -/
theorem eC.val {m a0 top c w v : Nat} {C0 : Nat → Int32} {I : mI} {out : List Nat} (hc : c < 20003) (hr : rval c w v) (h : eC m a0 C0 I out top) : eC m a0 C0 (puI m (top + 1) (nI v) (puI m top (nI w) I)) (out ++ [c]) (top + 2) := by
  obtain ⟨h1, h2, h3, h4⟩ := h
  refine ⟨puI_30, ?_, fun k hk => ?_, by omega⟩
  · rw [puI_20, puI_20]
    exact rcT_v hc hr out a0 top (fun k hk => by rw [am_up_n _ _ (by omega), am_up_n _ _ (by omega)]) (by rw [am_up_n _ _ (by omega), am_up_s]) (am_up_s _ _ _) h2
  · rw [puI_20, puI_20, am_up_n _ _ (by omega), am_up_n _ _ (by omega)]
    exact h3 k hk
theorem dX10_drops_0 : decode cX10_drops 0 = .ok (.aload_n 0, 1) := by decide +kernel
theorem dX10_drops_1 : decode cX10_drops 1 = .ok (.getfield 278, 3) := by decide +kernel
theorem dX10_drops_4 : decode cX10_drops 4 = .ok (.ifCond .le 64, 3) := by decide +kernel
theorem dX10_drops_7 : decode cX10_drops 7 = .ok (.aload_n 0, 1) := by decide +kernel
theorem dX10_drops_8 : decode cX10_drops 8 = .ok (.getfield 77, 3) := by decide +kernel
theorem dX10_drops_11 : decode cX10_drops 11 = .ok (.aload_n 0, 1) := by decide +kernel
theorem dX10_drops_12 : decode cX10_drops 12 = .ok (.getfield 278, 3) := by decide +kernel
theorem dX10_drops_15 : decode cX10_drops 15 = .ok (.iconst 1, 1) := by decide +kernel
theorem dX10_drops_16 : decode cX10_drops 16 = .ok (.isub, 1) := by decide +kernel
theorem dX10_drops_17 : decode cX10_drops 17 = .ok (.iaload, 1) := by decide +kernel
theorem dX10_drops_18 : decode cX10_drops 18 = .ok (.invokestatic 281, 3) := by decide +kernel
theorem dX10_drops_21 : decode cX10_drops 21 = .ok (.ifCond .ne 47, 3) := by decide +kernel
theorem dX10_drops_24 : decode cX10_drops 24 = .ok (.aload_n 0, 1) := by decide +kernel
theorem dX10_drops_25 : decode cX10_drops 25 = .ok (.getfield 77, 3) := by decide +kernel
theorem dX10_drops_28 : decode cX10_drops 28 = .ok (.aload_n 0, 1) := by decide +kernel
theorem dX10_drops_29 : decode cX10_drops 29 = .ok (.getfield 278, 3) := by decide +kernel
theorem dX10_drops_32 : decode cX10_drops 32 = .ok (.iconst 1, 1) := by decide +kernel
theorem dX10_drops_33 : decode cX10_drops 33 = .ok (.isub, 1) := by decide +kernel
theorem dX10_drops_34 : decode cX10_drops 34 = .ok (.iaload, 1) := by decide +kernel
theorem dX10_drops_35 : decode cX10_drops 35 = .ok (.invokestatic 284, 3) := by decide +kernel
theorem dX10_drops_38 : decode cX10_drops 38 = .ok (.iload_n 1, 1) := by decide +kernel
theorem dX10_drops_39 : decode cX10_drops 39 = .ok (.if_icmp .lt 29, 3) := by decide +kernel
theorem dX10_drops_42 : decode cX10_drops 42 = .ok (.aload_n 0, 1) := by decide +kernel
theorem dX10_drops_43 : decode cX10_drops 43 = .ok (.dup, 1) := by decide +kernel
theorem dX10_drops_44 : decode cX10_drops 44 = .ok (.getfield 278, 3) := by decide +kernel
theorem dX10_drops_47 : decode cX10_drops 47 = .ok (.iconst 1, 1) := by decide +kernel
theorem dX10_drops_48 : decode cX10_drops 48 = .ok (.isub, 1) := by decide +kernel
theorem dX10_drops_49 : decode cX10_drops 49 = .ok (.putfield 278, 3) := by decide +kernel
theorem dX10_drops_52 : decode cX10_drops 52 = .ok (.aload_n 0, 1) := by decide +kernel
theorem dX10_drops_53 : decode cX10_drops 53 = .ok (.aload_n 0, 1) := by decide +kernel
theorem dX10_drops_54 : decode cX10_drops 54 = .ok (.getfield 77, 3) := by decide +kernel
theorem dX10_drops_57 : decode cX10_drops 57 = .ok (.aload_n 0, 1) := by decide +kernel
theorem dX10_drops_58 : decode cX10_drops 58 = .ok (.getfield 278, 3) := by decide +kernel
theorem dX10_drops_61 : decode cX10_drops 61 = .ok (.iaload, 1) := by decide +kernel
theorem dX10_drops_62 : decode cX10_drops 62 = .ok (.invokevirtual 272, 3) := by decide +kernel
theorem dX10_drops_65 : decode cX10_drops 65 = .ok (.goto (-65), 3) := by decide +kernel
theorem dX10_drops_68 : decode cX10_drops 68 = .ok (.return_, 1) := by decide +kernel

set_option maxHeartbeats 4000000 in
set_option maxRecDepth 100000 in
theorem w_drops {m L a0 : Nat} {C0 : Nat → Int32} {out0 : List Nat} {nx : Nat} {kdx : mK} {I0 : mI} {Jx : mJ} {Px : mP} (hM : kM kdx Px m) (hL : L ≤ 6) : ∀ (w p0 : List Nat) (top : Nat) (I : mI), eC m a0 C0 I (out0 ++ p0) top → eW m I w → top + w.length ≤ 1200 → w.length ≤ 600 → dFr m I0 I → Ru yX10_drops.cls cX10_drops 2 none yX10_drops.name 3 ((fun z n' kd' I' J' P' => z = .inl none ∧ n' = nx ∧ kd' = kdx ∧ J' = Jx ∧ P' = Px ∧ dFr m I0 I' ∧ ∃ t2, eC m a0 C0 I' (out0 ++ p0 ++ (drpW L w).1) t2 ∧ t2 + (drpW L w).2.length = top + w.length ∧ eW m I' (drpW L w).2)) 0 0 0 [some (.ref m), some (.int (nI L))] [] nx kdx I Jx Px
  | [], p0, top, I, hC, hW, hb, hl, hf => by
    have hd : drpW L [] = ([], []) := rfl
    refine r_aload_n dX10_drops_0 rfl ?_
    refine r_getI dX10_drops_1 fl_X10_278 rfl (kM_0 hM) ?_
    rw [hW.1]
    refine r_if_le (tgt := 68) dX10_drops_4 (by decide) (fun _ => ?_) (fun hz => absurd (show _ from (by decide)) hz)
    refine r_vret rfl dX10_drops_68 ?_
    exact ⟨rfl, rfl, rfl, rfl, rfl, hf, top, by rw [hd, List.append_nil]; exact hC, by rw [hd], by rw [hd]; exact hW⟩
  | x :: t, p0, top, I, hC, hW, hb, hl, hf => by
    have hox := hW.2.2 x List.mem_cons_self
    have hlt : (x :: t).length = t.length + 1 := rfl
    have hs1 : nI (x :: t).length - nI 1 = nI t.length := by rw [hlt]; exact nI_s1 _
    have hx : I (m + 21) t.length = opI x := by
      have h2 := hW.2.1
      have h2 : I (m + 21) (t.map opI).length = opI x ∧ sr (I (m + 21)) (t.map opI) := h2
      rw [List.length_map] at h2
      exact h2.1
    have hst : sr (I (m + 21)) (t.map opI) := hW.2.1.2
    rw [hlt] at hb hl
    have hgt : ¬ nI (x :: t).length ≤ 0 := fun z => by
      have := (z_le (k := (x :: t).length) (by omega)).mp z
      omega
    by_cases c0 : x = 0
    · have hd : drpW L (x :: t) = ([], x :: t) := if_neg (fun z => z.1 c0)
      refine r_aload_n dX10_drops_0 rfl ?_
      refine r_getI dX10_drops_1 fl_X10_278 rfl (kM_0 hM) ?_
      rw [hW.1]
      refine r_if_le (tgt := 68) dX10_drops_4 (by decide) (fun hz => absurd hz (show ¬ _ from hgt)) (fun _ => ?_)
      refine r_aload_n dX10_drops_7 rfl ?_
      refine r_getR dX10_drops_8 fl_X10_77 rfl (kM_0 hM) (pM_43 hM) ?_
      refine r_aload_n dX10_drops_11 rfl ?_
      refine r_getI dX10_drops_12 fl_X10_278 rfl (kM_0 hM) ?_
      rw [hW.1]
      refine r_iconst (v := nI 1) dX10_drops_15 (by decide) ?_
      refine r_isub dX10_drops_16 ?_
      rw [hs1]
      refine r_iald dX10_drops_17 (aM_43 hM) (nI_in8 650 (by omega) (by decide)) (nI_clamp (by omega)) ?_
      rw [hx]
      refine r_statE (c_isOpen (opI x)) lk_X10_281 mc_X10_isOpen dX10_drops_18 (by decide) rfl rfl (Nat.le_of_ble_eq_true rfl) ?_
      rw [op_open hox]
      refine r_if_ne (tgt := 68) dX10_drops_21 (by decide) (fun _ => ?_) (fun hz => absurd hz (show ¬ _ from (by rw [decide_eq_true c0]; decide)))
      refine r_vret rfl dX10_drops_68 ?_
      exact ⟨rfl, rfl, rfl, rfl, rfl, hf, top, by rw [hd, List.append_nil]; exact hC, by rw [hd], by rw [hd]; exact hW⟩
    · by_cases cL : L ≤ stN x
      · have hd : drpW L (x :: t) = (x :: (drpW L t).1, (drpW L t).2) := if_pos ⟨c0, cL⟩
        rw [hd]
        have hop := hox.resolve_left c0
        have hC1 : eC m a0 C0 (puI m top (nI (opw x)) (va_up I m (va_up (I m) 31 (nI t.length)))) (out0 ++ p0 ++ [x]) (top + 1) := (hC.cg (I' := va_up I m (va_up (I m) 31 (nI t.length))) (by rw [am_up_s, am_up_n _ _ (by decide)]) (am_up_n _ _ (by omega))).op hop.1
        have hf1 : dFr m I (puI m top (nI (opw x)) (va_up I m (va_up (I m) 31 (nI t.length)))) := dFr.tr ⟨fun a h1 h2 => am_up_n _ _ h1, fun j h1 h2 => by rw [am_up_s, am_up_n _ _ h2]⟩ puI_fr
        have hW1 : eW m (puI m top (nI (opw x)) (va_up I m (va_up (I m) 31 (nI t.length)))) t := ⟨by rw [puI_31, am_up_s, am_up_s], by rw [hf1.1 _ (by omega) (by omega)]; exact hst, fun y hy => hW.2.2 y (List.mem_cons_of_mem _ hy)⟩
        refine r_aload_n dX10_drops_0 rfl ?_
        refine r_getI dX10_drops_1 fl_X10_278 rfl (kM_0 hM) ?_
        rw [hW.1]
        refine r_if_le (tgt := 68) dX10_drops_4 (by decide) (fun hz => absurd hz (show ¬ _ from hgt)) (fun _ => ?_)
        refine r_aload_n dX10_drops_7 rfl ?_
        refine r_getR dX10_drops_8 fl_X10_77 rfl (kM_0 hM) (pM_43 hM) ?_
        refine r_aload_n dX10_drops_11 rfl ?_
        refine r_getI dX10_drops_12 fl_X10_278 rfl (kM_0 hM) ?_
        rw [hW.1]
        refine r_iconst (v := nI 1) dX10_drops_15 (by decide) ?_
        refine r_isub dX10_drops_16 ?_
        rw [hs1]
        refine r_iald dX10_drops_17 (aM_43 hM) (nI_in8 650 (by omega) (by decide)) (nI_clamp (by omega)) ?_
        rw [hx]
        refine r_statE (c_isOpen (opI x)) lk_X10_281 mc_X10_isOpen dX10_drops_18 (by decide) rfl rfl (Nat.le_of_ble_eq_true rfl) ?_
        rw [op_open hox]
        refine r_if_ne (tgt := 68) dX10_drops_21 (by decide) (fun hz => absurd (show _ from (by rw [decide_eq_false c0]; rfl)) hz) (fun _ => ?_)
        refine r_aload_n dX10_drops_24 rfl ?_
        refine r_getR dX10_drops_25 fl_X10_77 rfl (kM_0 hM) (pM_43 hM) ?_
        refine r_aload_n dX10_drops_28 rfl ?_
        refine r_getI dX10_drops_29 fl_X10_278 rfl (kM_0 hM) ?_
        rw [hW.1]
        refine r_iconst (v := nI 1) dX10_drops_32 (by decide) ?_
        refine r_isub dX10_drops_33 ?_
        rw [hs1]
        refine r_iald dX10_drops_34 (aM_43 hM) (nI_in8 650 (by omega) (by decide)) (nI_clamp (by omega)) ?_
        rw [hx]
        refine r_statE (c_strength (opI x)) lk_X10_284 mc_X10_strength dX10_drops_35 (by decide) rfl rfl (Nat.le_of_ble_eq_true rfl) ?_
        rw [op_str (hox.resolve_left c0)]
        refine r_iload_n dX10_drops_38 rfl ?_
        refine r_icmp_lt (tgt := 68) dX10_drops_39 (by decide) (fun hz => absurd hz (show ¬ _ from (by have := (stN_6 x).1; rw [nI_ltI (by omega) (by omega)]; omega))) (fun _ => ?_)
        refine r_aload_n dX10_drops_42 rfl ?_
        refine r_dup dX10_drops_43 rfl ?_
        refine r_getI dX10_drops_44 fl_X10_278 rfl (kM_0 hM) ?_
        rw [hW.1]
        refine r_iconst (v := nI 1) dX10_drops_47 (by decide) ?_
        refine r_isub dX10_drops_48 ?_
        rw [hs1]
        refine r_putI dX10_drops_49 fl_X10_278 rfl rfl (kM_0 hM) ?_
        refine r_aload_n dX10_drops_52 rfl ?_
        refine r_aload_n dX10_drops_53 rfl ?_
        refine r_getR dX10_drops_54 fl_X10_77 rfl (kM_0 hM) (pM_43 hM) ?_
        refine r_aload_n dX10_drops_57 rfl ?_
        refine r_getI dX10_drops_58 fl_X10_278 rfl (kM_0 hM) ?_
        rw [am_up_s, am_up_s]
        refine r_iald dX10_drops_61 (aM_43 hM) (nI_in8 650 (by omega) (by decide)) (nI_clamp (by omega)) ?_
        rw [am_up_n _ _ (by omega), hx, opI_op c0]
        refine r_virtV (c_puI m top (nI (opw x)) hM (by rw [am_up_s, am_up_n _ _ (by decide)]; exact hC.1) (by omega)) lk_X10_272 mc_X10_puts dX10_drops_62 (kM_0 hM) (by decide) rfl rfl (Nat.le_of_ble_eq_true rfl) ?_
        refine r_goto (tgt := 0) dX10_drops_65 (by decide) ?_
        have ih := w_drops (Jx := Jx) (a0 := a0) (C0 := C0) (out0 := out0) (I0 := I0) (nx := nx) (kdx := kdx) (Px := Px) (L := L) hM hL t (p0 ++ [x]) (top + 1) _ (by rw [← List.append_assoc]; exact hC1) hW1 (by omega) (by omega) (hf.tr hf1)
        refine RuZ.mono ih (fun z n' kd' I' J' P' hz => ?_)
        obtain ⟨g1, g2, g3, g4, g5, g6, t2, g7, g8, g9⟩ := hz
        exact ⟨g1, g2, g3, g4, g5, g6, t2, by rw [show out0 ++ p0 ++ x :: (drpW L t).1 = out0 ++ (p0 ++ [x]) ++ (drpW L t).1 by simp]; exact g7, by rw [g8, hlt]; omega, g9⟩
      · have hd : drpW L (x :: t) = ([], x :: t) := if_neg (fun z => cL z.2)
        refine r_aload_n dX10_drops_0 rfl ?_
        refine r_getI dX10_drops_1 fl_X10_278 rfl (kM_0 hM) ?_
        rw [hW.1]
        refine r_if_le (tgt := 68) dX10_drops_4 (by decide) (fun hz => absurd hz (show ¬ _ from hgt)) (fun _ => ?_)
        refine r_aload_n dX10_drops_7 rfl ?_
        refine r_getR dX10_drops_8 fl_X10_77 rfl (kM_0 hM) (pM_43 hM) ?_
        refine r_aload_n dX10_drops_11 rfl ?_
        refine r_getI dX10_drops_12 fl_X10_278 rfl (kM_0 hM) ?_
        rw [hW.1]
        refine r_iconst (v := nI 1) dX10_drops_15 (by decide) ?_
        refine r_isub dX10_drops_16 ?_
        rw [hs1]
        refine r_iald dX10_drops_17 (aM_43 hM) (nI_in8 650 (by omega) (by decide)) (nI_clamp (by omega)) ?_
        rw [hx]
        refine r_statE (c_isOpen (opI x)) lk_X10_281 mc_X10_isOpen dX10_drops_18 (by decide) rfl rfl (Nat.le_of_ble_eq_true rfl) ?_
        rw [op_open hox]
        refine r_if_ne (tgt := 68) dX10_drops_21 (by decide) (fun hz => absurd (show _ from (by rw [decide_eq_false c0]; rfl)) hz) (fun _ => ?_)
        refine r_aload_n dX10_drops_24 rfl ?_
        refine r_getR dX10_drops_25 fl_X10_77 rfl (kM_0 hM) (pM_43 hM) ?_
        refine r_aload_n dX10_drops_28 rfl ?_
        refine r_getI dX10_drops_29 fl_X10_278 rfl (kM_0 hM) ?_
        rw [hW.1]
        refine r_iconst (v := nI 1) dX10_drops_32 (by decide) ?_
        refine r_isub dX10_drops_33 ?_
        rw [hs1]
        refine r_iald dX10_drops_34 (aM_43 hM) (nI_in8 650 (by omega) (by decide)) (nI_clamp (by omega)) ?_
        rw [hx]
        refine r_statE (c_strength (opI x)) lk_X10_284 mc_X10_strength dX10_drops_35 (by decide) rfl rfl (Nat.le_of_ble_eq_true rfl) ?_
        rw [op_str (hox.resolve_left c0)]
        refine r_iload_n dX10_drops_38 rfl ?_
        refine r_icmp_lt (tgt := 68) dX10_drops_39 (by decide) (fun _ => ?_) (fun hz => absurd (show _ from (by have := (stN_6 x).1; rw [nI_ltI (by omega) (by omega)]; omega)) hz)
        refine r_vret rfl dX10_drops_68 ?_
        exact ⟨rfl, rfl, rfl, rfl, rfl, hf, top, by rw [hd, List.append_nil]; exact hC, by rw [hd], by rw [hd]; exact hW⟩

set_option maxHeartbeats 4000000 in
set_option maxRecDepth 100000 in
theorem c_drops (m L a0 : Nat) (C0 : Nat → Int32) (out w : List Nat) (top : Nat) {n : Nat} {kd : mK} {I : mI} {J : mJ} {P : mP} (hM : kM kd P m) (hL : L ≤ 6) (hC : eC m a0 C0 I out top) (hW : eW m I w) (hb : top + w.length ≤ 1200) (hl : w.length ≤ 600) : Ct yX10_drops cX10_drops 2 none 3 0 0 [.ref m, .int (nI L)] n kd I J P (fun z n' kd' I' J' P' => z = .inl none ∧ n' = n ∧ kd' = kd ∧ J' = J ∧ P' = P ∧ dFr m I I' ∧ ∃ t2, eC m a0 C0 I' (out ++ (drpW L w).1) t2 ∧ t2 + (drpW L w).2.length = top + w.length ∧ eW m I' (drpW L w).2) := by
  refine ct_of 0 (by decide +kernel) (Nat.le_of_ble_eq_true rfl) rfl ?_
  have h := w_drops (nx := n) (Jx := J) (out0 := out) (I0 := I) hM hL w [] top I (by rw [List.append_nil]; exact hC) hW hb hl dFr.rf
  rw [List.append_nil] at h
  exact h

theorem dX10_isOpened_0 : decode cX10_isOpened 0 = .ok (.aload_n 0, 1) := by decide +kernel
theorem dX10_isOpened_1 : decode cX10_isOpened 1 = .ok (.getfield 278, 3) := by decide +kernel
theorem dX10_isOpened_4 : decode cX10_isOpened 4 = .ok (.iconst 1, 1) := by decide +kernel
theorem dX10_isOpened_5 : decode cX10_isOpened 5 = .ok (.isub, 1) := by decide +kernel
theorem dX10_isOpened_6 : decode cX10_isOpened 6 = .ok (.istore_n 1, 1) := by decide +kernel
theorem dX10_isOpened_7 : decode cX10_isOpened 7 = .ok (.iload_n 1, 1) := by decide +kernel
theorem dX10_isOpened_8 : decode cX10_isOpened 8 = .ok (.ifCond .lt 21, 3) := by decide +kernel
theorem dX10_isOpened_11 : decode cX10_isOpened 11 = .ok (.aload_n 0, 1) := by decide +kernel
theorem dX10_isOpened_12 : decode cX10_isOpened 12 = .ok (.getfield 77, 3) := by decide +kernel
theorem dX10_isOpened_15 : decode cX10_isOpened 15 = .ok (.iload_n 1, 1) := by decide +kernel
theorem dX10_isOpened_16 : decode cX10_isOpened 16 = .ok (.iaload, 1) := by decide +kernel
theorem dX10_isOpened_17 : decode cX10_isOpened 17 = .ok (.invokestatic 281, 3) := by decide +kernel
theorem dX10_isOpened_20 : decode cX10_isOpened 20 = .ok (.ifCond .ne 9, 3) := by decide +kernel
theorem dX10_isOpened_23 : decode cX10_isOpened 23 = .ok (.iinc 1 (-1), 3) := by decide +kernel
theorem dX10_isOpened_26 : decode cX10_isOpened 26 = .ok (.goto (-19), 3) := by decide +kernel
theorem dX10_isOpened_29 : decode cX10_isOpened 29 = .ok (.iload_n 1, 1) := by decide +kernel
theorem dX10_isOpened_30 : decode cX10_isOpened 30 = .ok (.ifCond .lt 7, 3) := by decide +kernel
theorem dX10_isOpened_33 : decode cX10_isOpened 33 = .ok (.iconst 1, 1) := by decide +kernel
theorem dX10_isOpened_34 : decode cX10_isOpened 34 = .ok (.goto 4, 3) := by decide +kernel
theorem dX10_isOpened_37 : decode cX10_isOpened 37 = .ok (.iconst 0, 1) := by decide +kernel
theorem dX10_isOpened_38 : decode cX10_isOpened 38 = .ok (.ireturn, 1) := by decide +kernel

def kOf : List Nat → Int32
  | [] => -1
  | _ :: t => nI t.length
theorem kOf_dec : ∀ (t : List Nat), nI t.length + Int32.ofInt (-1) = kOf t
  | [] => by decide
  | _ :: u => nI_dec _
theorem opens_z {w : List Nat} {x : Nat} : opens (x :: w) = (if x = 0 then 1 else 0) + opens w := rfl
set_option maxHeartbeats 4000000 in
set_option maxRecDepth 100000 in
theorem w_opened {m nx : Nat} {kdx : mK} {I : mI} {Jx : mJ} {Px : mP} (hM : kM kdx Px m) : ∀ (s : List Nat), sr (I (m + 21)) (s.map opI) → opOK s → s.length ≤ 600 → Ru yX10_isOpened.cls cX10_isOpened 2 (some .boolean) yX10_isOpened.name 3 (am_is (some (.int (bz (decide (0 < opens s))))) nx kdx I Jx Px) 0 0 7 [some (.ref m), some (.int (kOf s))] [] nx kdx I Jx Px
  | [], hs, ho, hl => by
    refine r_iload_n dX10_isOpened_7 rfl ?_
    refine r_if_lt (tgt := 29) dX10_isOpened_8 (by decide) (fun _ => ?_) (fun hz => absurd (show _ from (by decide)) hz)
    refine r_iload_n dX10_isOpened_29 rfl ?_
    refine r_if_lt (tgt := 37) dX10_isOpened_30 (by decide) (fun _ => ?_) (fun hz => absurd (show _ from (by decide)) hz)
    refine r_iconst (v := nI 0) dX10_isOpened_37 (by decide) ?_
    refine r_zret rfl dX10_isOpened_38 (by first | exact Or.inl rfl | exact Or.inr rfl | assumption) ?_
    exact am_is.mk
  | x :: t, hs, ho, hl => by
    have hox := ho x List.mem_cons_self
    have hlt : (x :: t).length = t.length + 1 := rfl
    rw [hlt] at hl
    have hx : I (m + 21) t.length = opI x := by
      have h2 : I (m + 21) (t.map opI).length = opI x ∧ sr (I (m + 21)) (t.map opI) := hs
      rw [List.length_map] at h2
      exact h2.1
    rw [opens_z, show kOf (x :: t) = nI t.length from rfl]
    by_cases c0 : x = 0
    · rw [if_pos c0, decide_eq_true (show 0 < 1 + opens t by omega)]
      refine r_iload_n dX10_isOpened_7 rfl ?_
      refine r_if_lt (tgt := 29) dX10_isOpened_8 (by decide) (fun hz => absurd hz (show ¬ _ from (z_nlt (by omega)))) (fun _ => ?_)
      refine r_aload_n dX10_isOpened_11 rfl ?_
      refine r_getR dX10_isOpened_12 fl_X10_77 rfl (kM_0 hM) (pM_43 hM) ?_
      refine r_iload_n dX10_isOpened_15 rfl ?_
      refine r_iald dX10_isOpened_16 (aM_43 hM) (nI_in8 650 (by omega) (by decide)) (nI_clamp (by omega)) ?_
      rw [hx]
      refine r_statE (c_isOpen (opI x)) lk_X10_281 mc_X10_isOpen dX10_isOpened_17 (by decide) rfl rfl (Nat.le_of_ble_eq_true rfl) ?_
      rw [op_open hox]
      refine r_if_ne (tgt := 29) dX10_isOpened_20 (by decide) (fun _ => ?_) (fun hz => absurd hz (show ¬ _ from (by rw [decide_eq_true c0]; decide)))
      refine r_iload_n dX10_isOpened_29 rfl ?_
      refine r_if_lt (tgt := 37) dX10_isOpened_30 (by decide) (fun hz => absurd hz (show ¬ _ from (z_nlt (by omega)))) (fun _ => ?_)
      refine r_iconst (v := nI 1) dX10_isOpened_33 (by decide) ?_
      refine r_goto (tgt := 38) dX10_isOpened_34 (by decide) ?_
      refine r_zret rfl dX10_isOpened_38 (by first | exact Or.inl rfl | exact Or.inr rfl | assumption) ?_
      exact am_is.mk
    · rw [if_neg c0, Nat.zero_add]
      refine r_iload_n dX10_isOpened_7 rfl ?_
      refine r_if_lt (tgt := 29) dX10_isOpened_8 (by decide) (fun hz => absurd hz (show ¬ _ from (z_nlt (by omega)))) (fun _ => ?_)
      refine r_aload_n dX10_isOpened_11 rfl ?_
      refine r_getR dX10_isOpened_12 fl_X10_77 rfl (kM_0 hM) (pM_43 hM) ?_
      refine r_iload_n dX10_isOpened_15 rfl ?_
      refine r_iald dX10_isOpened_16 (aM_43 hM) (nI_in8 650 (by omega) (by decide)) (nI_clamp (by omega)) ?_
      rw [hx]
      refine r_statE (c_isOpen (opI x)) lk_X10_281 mc_X10_isOpen dX10_isOpened_17 (by decide) rfl rfl (Nat.le_of_ble_eq_true rfl) ?_
      rw [op_open hox]
      refine r_if_ne (tgt := 29) dX10_isOpened_20 (by decide) (fun hz => absurd (show _ from (by rw [decide_eq_false c0]; rfl)) hz) (fun _ => ?_)
      refine r_iinc (v := kOf t) dX10_isOpened_23 rfl (kOf_dec t) ?_
      refine r_goto (tgt := 7) dX10_isOpened_26 (by decide) ?_
      exact w_opened hM t hs.2 (fun y hy => ho y (List.mem_cons_of_mem _ hy)) (by omega)

set_option maxHeartbeats 4000000 in
set_option maxRecDepth 100000 in
theorem c_opened (m : Nat) (w : List Nat) {n : Nat} {kd : mK} {I : mI} {J : mJ} {P : mP} (hM : kM kd P m) (hW : eW m I w) (hl : w.length ≤ 600) : Ct yX10_isOpened cX10_isOpened 2 (some .boolean) 3 0 0 [.ref m] n kd I J P (am_is (some (.int (bz (decide (0 < opens w))))) n kd I J P) := by
  refine ct_of 1 (by decide +kernel) (Nat.le_of_ble_eq_true rfl) rfl ?_
  refine r_aload_n dX10_isOpened_0 rfl ?_
  refine r_getI dX10_isOpened_1 fl_X10_278 rfl (kM_0 hM) ?_
  rw [hW.1]
  refine r_iconst (v := nI 1) dX10_isOpened_4 (by decide) ?_
  refine r_isub dX10_isOpened_5 ?_
  rw [show nI w.length - nI 1 = kOf w from by cases w with
    | nil => decide
    | cons x t => exact nI_s1 _]
  refine r_istore_n dX10_isOpened_6 (by decide) ?_
  exact w_opened hM w hW.2.1 hW.2.2 hl

theorem dX10_deeper_0 : decode cX10_deeper 0 = .ok (.aload_n 0, 1) := by decide +kernel
theorem dX10_deeper_1 : decode cX10_deeper 1 = .ok (.getfield 290, 3) := by decide +kernel
theorem dX10_deeper_4 : decode cX10_deeper 4 = .ok (.bipush 6, 2) := by decide +kernel
theorem dX10_deeper_6 : decode cX10_deeper 6 = .ok (.if_icmp .ge 24, 3) := by decide +kernel
theorem dX10_deeper_9 : decode cX10_deeper 9 = .ok (.aload_n 0, 1) := by decide +kernel
theorem dX10_deeper_10 : decode cX10_deeper 10 = .ok (.dup, 1) := by decide +kernel
theorem dX10_deeper_11 : decode cX10_deeper 11 = .ok (.getfield 290, 3) := by decide +kernel
theorem dX10_deeper_14 : decode cX10_deeper 14 = .ok (.iconst 1, 1) := by decide +kernel
theorem dX10_deeper_15 : decode cX10_deeper 15 = .ok (.iadd, 1) := by decide +kernel
theorem dX10_deeper_16 : decode cX10_deeper 16 = .ok (.putfield 290, 3) := by decide +kernel
theorem dX10_deeper_19 : decode cX10_deeper 19 = .ok (.aload_n 0, 1) := by decide +kernel
theorem dX10_deeper_20 : decode cX10_deeper 20 = .ok (.getfield 80, 3) := by decide +kernel
theorem dX10_deeper_23 : decode cX10_deeper 23 = .ok (.aload_n 0, 1) := by decide +kernel
theorem dX10_deeper_24 : decode cX10_deeper 24 = .ok (.getfield 290, 3) := by decide +kernel
theorem dX10_deeper_27 : decode cX10_deeper 27 = .ok (.iconst 0, 1) := by decide +kernel
theorem dX10_deeper_28 : decode cX10_deeper 28 = .ok (.bastore, 1) := by decide +kernel
theorem dX10_deeper_29 : decode cX10_deeper 29 = .ok (.return_, 1) := by decide +kernel
theorem dX10_deeper_30 : decode cX10_deeper 30 = .ok (.aload_n 0, 1) := by decide +kernel
theorem dX10_deeper_31 : decode cX10_deeper 31 = .ok (.aload_n 0, 1) := by decide +kernel
theorem dX10_deeper_32 : decode cX10_deeper 32 = .ok (.getfield 226, 3) := by decide +kernel
theorem dX10_deeper_35 : decode cX10_deeper 35 = .ok (.iconst 2, 1) := by decide +kernel
theorem dX10_deeper_36 : decode cX10_deeper 36 = .ok (.if_icmp .eq 20, 3) := by decide +kernel
theorem dX10_deeper_39 : decode cX10_deeper 39 = .ok (.aload_n 0, 1) := by decide +kernel
theorem dX10_deeper_40 : decode cX10_deeper 40 = .ok (.getfield 226, 3) := by decide +kernel
theorem dX10_deeper_43 : decode cX10_deeper 43 = .ok (.iconst 1, 1) := by decide +kernel
theorem dX10_deeper_44 : decode cX10_deeper 44 = .ok (.if_icmp .eq 12, 3) := by decide +kernel
theorem dX10_deeper_47 : decode cX10_deeper 47 = .ok (.aload_n 0, 1) := by decide +kernel
theorem dX10_deeper_48 : decode cX10_deeper 48 = .ok (.bipush 40, 2) := by decide +kernel
theorem dX10_deeper_50 : decode cX10_deeper 50 = .ok (.invokevirtual 293, 3) := by decide +kernel
theorem dX10_deeper_53 : decode cX10_deeper 53 = .ok (.ifCond .eq 7, 3) := by decide +kernel
theorem dX10_deeper_56 : decode cX10_deeper 56 = .ok (.iconst 2, 1) := by decide +kernel
theorem dX10_deeper_57 : decode cX10_deeper 57 = .ok (.goto 4, 3) := by decide +kernel
theorem dX10_deeper_60 : decode cX10_deeper 60 = .ok (.iconst 1, 1) := by decide +kernel
theorem dX10_deeper_61 : decode cX10_deeper 61 = .ok (.invokevirtual 259, 3) := by decide +kernel
theorem dX10_deeper_64 : decode cX10_deeper 64 = .ok (.return_, 1) := by decide +kernel

set_option maxHeartbeats 4000000 in
set_option maxRecDepth 100000 in
theorem c_deep (m dp : Nat) {n : Nat} {kd : mK} {I : mI} {J : mJ} {P : mP} (hM : kM kd P m) (h32 : I m 32 = nI dp) (hd : dp < 6) : Ct yX10_deeper cX10_deeper 1 none 3 0 0 [.ref m] n kd I J P (am_is none n kd (va_up (va_up I m (va_up (I m) 32 (nI (dp + 1)))) (m + 22) (va_up (I (m + 22)) (dp + 1) (nI 0))) J P) := by
  refine ct_of 0 (by decide +kernel) (Nat.le_of_ble_eq_true rfl) rfl ?_
  refine r_aload_n dX10_deeper_0 rfl ?_
  refine r_getI dX10_deeper_1 fl_X10_290 rfl (kM_0 hM) ?_
  rw [h32]
  refine r_bipush (v := nI 6) dX10_deeper_4 (by decide) ?_
  refine r_icmp_ge (tgt := 30) dX10_deeper_6 (by decide) (fun hz => absurd hz (show ¬ _ from (by rw [nI_leI (by omega) (by omega)]; omega))) (fun _ => ?_)
  refine r_aload_n dX10_deeper_9 rfl ?_
  refine r_dup dX10_deeper_10 rfl ?_
  refine r_getI dX10_deeper_11 fl_X10_290 rfl (kM_0 hM) ?_
  rw [h32]
  refine r_iconst (v := nI 1) dX10_deeper_14 (by decide) ?_
  refine r_iadd dX10_deeper_15 ?_
  rw [nI_add]
  refine r_putI dX10_deeper_16 fl_X10_290 rfl rfl (kM_0 hM) ?_
  refine r_aload_n dX10_deeper_19 rfl ?_
  refine r_getR dX10_deeper_20 fl_X10_80 rfl (kM_0 hM) (pM_44 hM) ?_
  refine r_aload_n dX10_deeper_23 rfl ?_
  refine r_getI dX10_deeper_24 fl_X10_290 rfl (kM_0 hM) ?_
  rw [am_up_s, am_up_s]
  refine r_iconst (v := nI 0) dX10_deeper_27 (by decide) ?_
  refine r_zast dX10_deeper_28 (aM_44 hM) (nI_in8 9 (by omega) (by decide)) (nI_clamp (by omega)) ?_
  rw [am_up_n (a := m) _ _ (by omega), show vp_nar .boolean (nI 0) = nI 0 from rfl]
  refine r_vret rfl dX10_deeper_29 ?_
  exact am_is.mk

theorem srt_2 {k : Int32} (h : srt k = 2) : k = nI 2 := by
  unfold srt at h
  by_cases a : k = nI 0
  · rw [if_pos a] at h; exact absurd h (by decide)
  · rw [if_neg a] at h
    by_cases b : k = nI 2
    · exact b
    · rw [if_neg b] at h
      by_cases c : k = nI 1
      · rw [if_pos c] at h; exact absurd h (by decide)
      · rw [if_neg c] at h
        by_cases d : k < nI 128
        · rw [if_pos d] at h; exact absurd h (by decide)
        · rw [if_neg d] at h; exact absurd h (by decide)
theorem srt_1 {k : Int32} : srt k = 1 ↔ ¬ k < nI 128 := by
  constructor
  · intro h q
    unfold srt at h
    by_cases a : k = nI 0
    · rw [if_pos a] at h; exact absurd h (by decide)
    · rw [if_neg a] at h
      by_cases b : k = nI 2
      · rw [if_pos b] at h; exact absurd h (by decide)
      · rw [if_neg b] at h
        by_cases c : k = nI 1
        · rw [if_pos c] at h; exact absurd h (by decide)
        · rw [if_neg c, if_pos q] at h; exact absurd h (by decide)
  · intro h
    exact srt_w h (fun q => h (by rw [q]; decide))
/-- a sign of the token, or not -/
theorem gTk.sg {m : Nat} {X : Nat → Int32} {I : mI} {J : mJ} {t : Tok} (h : gTk m X I J t) {c : Nat} (hc : srt (nI c) = 3) : (decide (I m 21 = nI 3) && decide (I m 25 = nI c)) = decide (t.1 = nI c) := by
  obtain ⟨-, -, -, h21, -, h25⟩ := h
  rw [h21]
  have hl := srt_lt t.1
  by_cases q : srt t.1 = 3
  · rw [q, h25 q]
    rfl
  · rw [decide_eq_false (fun z => q ((nI_eq (by omega) (by decide)).mp z)), Bool.false_and, decide_eq_false (fun z => q (by rw [z]; exact hc))]
set_option maxHeartbeats 4000000 in
set_option maxRecDepth 100000 in
theorem c_deepB (m : Nat) {X : Nat → Int32} {t : Tok} {n : Nat} {kd : mK} {I : mI} {J : mJ} {P : mP} (hM : kM kd P m) (h32 : I m 32 = nI 6) (hg : gTk m X I J t) : Ct yX10_deeper cX10_deeper 1 none 3 0 0 [.ref m] n kd I J P (am_is none n kd (wrI m (if t.1 = nI 2 ∨ ¬ t.1 < nI 128 ∨ t.1 = nI 40 then nI 2 else nI 1) I) J P) := by
  have hl := srt_lt t.1
  refine ct_of 0 (by decide +kernel) (Nat.le_of_ble_eq_true rfl) rfl ?_
  by_cases c2 : t.1 = nI 2
  · rw [if_pos (Or.inl c2)]
    refine r_aload_n dX10_deeper_0 rfl ?_
    refine r_getI dX10_deeper_1 fl_X10_290 rfl (kM_0 hM) ?_
    rw [h32]
    refine r_bipush (v := nI 6) dX10_deeper_4 (by decide) ?_
    refine r_icmp_ge (tgt := 30) dX10_deeper_6 (by decide) (fun _ => ?_) (fun hz => absurd (show _ from (by rw [nI_leI (by omega) (by omega)]; omega)) hz)
    refine r_aload_n dX10_deeper_30 rfl ?_
    refine r_aload_n dX10_deeper_31 rfl ?_
    refine r_getI dX10_deeper_32 fl_X10_226 rfl (kM_0 hM) ?_
    rw [hg.2.2.2.1]
    refine r_iconst (v := nI 2) dX10_deeper_35 (by decide) ?_
    refine r_icmp_eq (tgt := 56) dX10_deeper_36 (by decide) (fun _ => ?_) (fun hz => absurd (show _ from (by rw [c2]; decide)) hz)
    refine r_iconst (v := nI 2) dX10_deeper_56 (by decide) ?_
    refine r_goto (tgt := 61) dX10_deeper_57 (by decide) ?_
    refine r_virtV (c_wrong m _ hM) lk_X10_259 mc_X10_wrong dX10_deeper_61 (kM_0 hM) (by decide) rfl rfl (Nat.le_of_ble_eq_true rfl) ?_
    refine r_vret rfl dX10_deeper_64 ?_
    exact am_is.mk
  · by_cases c1 : t.1 < nI 128
    · by_cases c40 : t.1 = nI 40
      · rw [if_pos (Or.inr (Or.inr c40))]
        refine r_aload_n dX10_deeper_0 rfl ?_
        refine r_getI dX10_deeper_1 fl_X10_290 rfl (kM_0 hM) ?_
        rw [h32]
        refine r_bipush (v := nI 6) dX10_deeper_4 (by decide) ?_
        refine r_icmp_ge (tgt := 30) dX10_deeper_6 (by decide) (fun _ => ?_) (fun hz => absurd (show _ from (by rw [nI_leI (by omega) (by omega)]; omega)) hz)
        refine r_aload_n dX10_deeper_30 rfl ?_
        refine r_aload_n dX10_deeper_31 rfl ?_
        refine r_getI dX10_deeper_32 fl_X10_226 rfl (kM_0 hM) ?_
        rw [hg.2.2.2.1]
        refine r_iconst (v := nI 2) dX10_deeper_35 (by decide) ?_
        refine r_icmp_eq (tgt := 56) dX10_deeper_36 (by decide) (fun hz => absurd hz (show ¬ _ from (fun z => c2 (srt_2 ((nI_eq (by omega) (by decide)).mp z))))) (fun _ => ?_)
        refine r_aload_n dX10_deeper_39 rfl ?_
        refine r_getI dX10_deeper_40 fl_X10_226 rfl (kM_0 hM) ?_
        rw [hg.2.2.2.1]
        refine r_iconst (v := nI 1) dX10_deeper_43 (by decide) ?_
        refine r_icmp_eq (tgt := 56) dX10_deeper_44 (by decide) (fun hz => absurd hz (show ¬ _ from (fun z => srt_1.mp ((nI_eq (by omega) (by decide)).mp z) c1))) (fun _ => ?_)
        refine r_aload_n dX10_deeper_47 rfl ?_
        refine r_bipush (v := nI 40) dX10_deeper_48 (by decide) ?_
        refine r_virtE (c_sign m (nI 40) hM) lk_X10_293 mc_X10_isSign dX10_deeper_50 (kM_0 hM) (by decide) rfl rfl (Nat.le_of_ble_eq_true rfl) ?_
        rw [hg.sg (c := 40) (by decide)]
        rw [decide_eq_true c40]
        refine r_if_eq (tgt := 60) dX10_deeper_53 (by decide) (fun hz => absurd hz (show ¬ _ from (by decide))) (fun _ => ?_)
        refine r_iconst (v := nI 2) dX10_deeper_56 (by decide) ?_
        refine r_goto (tgt := 61) dX10_deeper_57 (by decide) ?_
        refine r_virtV (c_wrong m _ hM) lk_X10_259 mc_X10_wrong dX10_deeper_61 (kM_0 hM) (by decide) rfl rfl (Nat.le_of_ble_eq_true rfl) ?_
        refine r_vret rfl dX10_deeper_64 ?_
        exact am_is.mk
      · rw [if_neg (fun z => z.elim c2 (fun y => y.elim (fun x => x c1) c40))]
        refine r_aload_n dX10_deeper_0 rfl ?_
        refine r_getI dX10_deeper_1 fl_X10_290 rfl (kM_0 hM) ?_
        rw [h32]
        refine r_bipush (v := nI 6) dX10_deeper_4 (by decide) ?_
        refine r_icmp_ge (tgt := 30) dX10_deeper_6 (by decide) (fun _ => ?_) (fun hz => absurd (show _ from (by rw [nI_leI (by omega) (by omega)]; omega)) hz)
        refine r_aload_n dX10_deeper_30 rfl ?_
        refine r_aload_n dX10_deeper_31 rfl ?_
        refine r_getI dX10_deeper_32 fl_X10_226 rfl (kM_0 hM) ?_
        rw [hg.2.2.2.1]
        refine r_iconst (v := nI 2) dX10_deeper_35 (by decide) ?_
        refine r_icmp_eq (tgt := 56) dX10_deeper_36 (by decide) (fun hz => absurd hz (show ¬ _ from (fun z => c2 (srt_2 ((nI_eq (by omega) (by decide)).mp z))))) (fun _ => ?_)
        refine r_aload_n dX10_deeper_39 rfl ?_
        refine r_getI dX10_deeper_40 fl_X10_226 rfl (kM_0 hM) ?_
        rw [hg.2.2.2.1]
        refine r_iconst (v := nI 1) dX10_deeper_43 (by decide) ?_
        refine r_icmp_eq (tgt := 56) dX10_deeper_44 (by decide) (fun hz => absurd hz (show ¬ _ from (fun z => srt_1.mp ((nI_eq (by omega) (by decide)).mp z) c1))) (fun _ => ?_)
        refine r_aload_n dX10_deeper_47 rfl ?_
        refine r_bipush (v := nI 40) dX10_deeper_48 (by decide) ?_
        refine r_virtE (c_sign m (nI 40) hM) lk_X10_293 mc_X10_isSign dX10_deeper_50 (kM_0 hM) (by decide) rfl rfl (Nat.le_of_ble_eq_true rfl) ?_
        rw [hg.sg (c := 40) (by decide)]
        rw [decide_eq_false c40]
        refine r_if_eq (tgt := 60) dX10_deeper_53 (by decide) (fun _ => ?_) (fun hz => absurd (show _ from rfl) hz)
        refine r_iconst (v := nI 1) dX10_deeper_60 (by decide) ?_
        refine r_virtV (c_wrong m _ hM) lk_X10_259 mc_X10_wrong dX10_deeper_61 (kM_0 hM) (by decide) rfl rfl (Nat.le_of_ble_eq_true rfl) ?_
        refine r_vret rfl dX10_deeper_64 ?_
        exact am_is.mk
    · rw [if_pos (Or.inr (Or.inl c1))]
      refine r_aload_n dX10_deeper_0 rfl ?_
      refine r_getI dX10_deeper_1 fl_X10_290 rfl (kM_0 hM) ?_
      rw [h32]
      refine r_bipush (v := nI 6) dX10_deeper_4 (by decide) ?_
      refine r_icmp_ge (tgt := 30) dX10_deeper_6 (by decide) (fun _ => ?_) (fun hz => absurd (show _ from (by rw [nI_leI (by omega) (by omega)]; omega)) hz)
      refine r_aload_n dX10_deeper_30 rfl ?_
      refine r_aload_n dX10_deeper_31 rfl ?_
      refine r_getI dX10_deeper_32 fl_X10_226 rfl (kM_0 hM) ?_
      rw [hg.2.2.2.1]
      refine r_iconst (v := nI 2) dX10_deeper_35 (by decide) ?_
      refine r_icmp_eq (tgt := 56) dX10_deeper_36 (by decide) (fun hz => absurd hz (show ¬ _ from (fun z => c2 (srt_2 ((nI_eq (by omega) (by decide)).mp z))))) (fun _ => ?_)
      refine r_aload_n dX10_deeper_39 rfl ?_
      refine r_getI dX10_deeper_40 fl_X10_226 rfl (kM_0 hM) ?_
      rw [hg.2.2.2.1]
      refine r_iconst (v := nI 1) dX10_deeper_43 (by decide) ?_
      refine r_icmp_eq (tgt := 56) dX10_deeper_44 (by decide) (fun _ => ?_) (fun hz => absurd (show _ from (by rw [srt_1.mpr c1])) hz)
      refine r_iconst (v := nI 2) dX10_deeper_56 (by decide) ?_
      refine r_goto (tgt := 61) dX10_deeper_57 (by decide) ?_
      refine r_virtV (c_wrong m _ hM) lk_X10_259 mc_X10_wrong dX10_deeper_61 (kM_0 hM) (by decide) rfl rfl (Nat.le_of_ble_eq_true rfl) ?_
      refine r_vret rfl dX10_deeper_64 ?_
      exact am_is.mk

