/-! THE CLAIM -/
theorem in_all : ∀ ci, ci < 11 → Cond.instantiable (aR ci) (aN ci) ∈ gw := by
  intro ci h
  match ci, h with
  | 0, _ => exact in_X0
  | 1, _ => exact in_X1
  | 2, _ => exact in_X2
  | 3, _ => exact in_X3
  | 4, _ => exact in_X4
  | 5, _ => exact in_X5
  | 6, _ => exact in_X6
  | 7, _ => exact in_X7
  | 8, _ => exact in_X8
  | 9, _ => exact in_X9
  | 10, _ => exact in_X10
  | k + 11, h => exact absurd h (by omega)
set_option maxRecDepth 1000000 in
theorem t_un : lw_tbl[742]? = some (Cond.laysStatic Bundle.tN "UNASSIGNED_STACK" Bundle.steD) := by decide +kernel
set_option maxRecDepth 1000000 in
theorem t_su : lw_tbl[744]? = some (Cond.laysStatic Bundle.tN "SUPPRESSED_SENTINEL" Bundle.listD) := by decide +kernel
set_option maxRecDepth 1000000 in
theorem t_cs : lw_tbl[820]? = some (Cond.laysStatic "java/lang/String" "COMPACT_STRINGS" "Z") := by decide +kernel
set_option maxRecDepth 1000000 in
theorem t_fm : lw_tbl[836]? = some (Cond.laysStatic "jdk/internal/util/Preconditions" "SIOOBE_FORMATTER" "Ljava/util/function/BiFunction;") := by decide +kernel
set_option maxRecDepth 1000000 in
theorem t_iT : lw_tbl[134]? = some (Cond.initialized Bundle.tN) := by decide +kernel
set_option maxRecDepth 1000000 in
theorem t_iS : lw_tbl[140]? = some (Cond.initialized "java/lang/String") := by decide +kernel
set_option maxRecDepth 1000000 in
theorem t_iP : lw_tbl[142]? = some (Cond.initialized "jdk/internal/util/Preconditions") := by decide +kernel
set_option maxRecDepth 1000000 in
theorem t_xc : [717, 984].map (fun i => lw_tbl[i]?) = xc.map (fun X => some (Cond.castable X X)) := by decide +kernel
set_option maxRecDepth 1000000 in
theorem t_xd : [718, 720, 722].map (fun i => lw_tbl[i]?) = xd.map (fun y => some (Cond.declares y)) := by decide +kernel
set_option maxRecDepth 1000000 in
theorem t_sr : [806, 859, 860, 861, 862, 863, 864, 865, 866, 867, 868, 869, 870, 1329, 1344, 1345, 1346, 1348, 1390, 1391, 1392, 1388].map (fun i => lw_tbl[i]?) = sR.map (fun q => some (Cond.stringRef q.1 q.2.1 q.2.2.1)) := by decide +kernel
theorem mem_by {α : Type} {f : α → Cond} {is : List Nat} {xs : List α} (h : is.map (fun i => lw_tbl[i]?) = xs.map (fun x => some (f x))) : ∀ x ∈ xs, f x ∈ lw_tbl := fun x hx => by
  have : some (f x) ∈ is.map (fun i => lw_tbl[i]?) := by rw [h]; exact List.mem_map.mpr ⟨x, hx, rfl⟩
  obtain ⟨i, -, hi⟩ := List.mem_map.mp this
  exact List.mem_of_getElem? hi
theorem sR_tm : ∀ q ∈ sR, q.2.2.2 < 21 ∧ ((Term.string q.1 q.2.1) = tmS q.2.2.2 ∨ (q.1 = "RiddleDoors$Page" ∧ q.2.1 = 85 ∧ q.2.2.2 = 2)) := by decide +kernel
theorem st_ev {own : String} {k : Nat} {A A' : Array Value} {s : State} : (Term.string own k).eval A s none [] s = (Term.string own k).eval A' s none [] s := rfl
theorem gw_tbl {w : Cond} (h : w ∈ gw) : w ∈ lw_tbl := (List.mem_filter.mp h).1
set_option maxHeartbeats 4000000 in
/-- what the statement gives of the start, as the rows want it -/
theorem am_start {s : State} {b L : Nat} {xs : Nat → Int32} (hts : ∀ w ∈ lw_tbl, w.before #[Value.ref b] s = true) (hX : va_X b L xs s s.heap) (hbl : b < s.heap.size) (hgv : (Jvm.Cond.and given_1 narrow_1).before #[Value.ref b] s = true) (hL : L ≤ 3072) :
    ∃ (cA : Nat → ClassId) (ad : Nat → Nat) (D : va_G), va_K D vwCl (am_ty cA) s ∧ am_S (fun q => s.heap.size ≤ q) cA s s.heap ∧ am_N s ∧ am_St cA ad ∧ ad 1000200 = b ∧ cA 301 = L ∧ ∀ j, nI (cA (310 + j)) = xs j := by
  have hs := flat_of_before _ hgv
  have hm : ∀ {i : Nat} {w : Cond}, nlist[i]? = some w → w.before #[Value.ref b] s = true := fun h => hs _ (List.mem_of_getElem? h)
  have ht : ∀ {i : Nat} {w : Cond}, lw_tbl[i]? = some w → w.before #[Value.ref b] s = true := fun h => hts _ (List.mem_of_getElem? h)
  have hA : ∀ a : Nat, a < s.heap.size → ¬ (fun q : Nat => s.heap.size ≤ q) a := fun a ha => Nat.not_le.mpr ha
  obtain ⟨adK, adV, hvk, hev⟩ := vk_Sof (N := 21) (tm := tmS) (len := sL) (byt := sB) (A := fun q : Nat => s.heap.size ≤ q) (args := #[Value.ref b]) (s := s) (by decide) (fun i hi => hm (n_ex i hi)) (fun i hi => hm (n_co i hi)) (fun i hi => hm (n_ar i hi)) (fun i hi => hm (n_le i hi)) (fun i hi j hj => hm (n_el i hi j hj)) (fun i j hi hj hij => by
    rcases Nat.lt_or_gt_of_ne hij with q | q
    · exact Or.inl (hm (n_ne i hi j hj q))
    · exact Or.inr (hm (n_ne j hj i hi q))) hA
  obtain ⟨c1, k1, m1, f1, g1, e1⟩ := Cond.arrayClass_spec (hts _ (gw_tbl a_ac1))
  obtain ⟨c2, k2, m2, f2, g2, e2⟩ := Cond.arrayClass_spec (hts _ (gw_tbl a_ac2))
  obtain ⟨c3, k3, m3, f3, g3, e3⟩ := Cond.arrayClass_spec (hts _ (gw_tbl a_ac3))
  obtain ⟨c4, k4, m4, f4, g4, e4⟩ := Cond.arrayClass_spec (hts _ (gw_tbl a_ac4))
  have hkn : ∀ ci, ∃ q : ClassId × (Nat → Nat), ci < 11 → u_Kn s (aR ci) (aT ci) (aN ci) q.1 q.2 := fun ci => by
    by_cases h : ci < 11
    · obtain ⟨x, y, hxy⟩ := u_known (C := aR ci) (T := aT ci) (N := aN ci) (n := aN ci) hts (fun w hw => gw_tbl (a_in ci h w hw)) (hts _ (gw_tbl (in_all ci h)))
      exact ⟨(x, y), fun _ => hxy⟩
    · exact ⟨(0, fun _ => 0), fun q => absurd q h⟩
  obtain ⟨dq, hdq⟩ := Classical.axiomOfChoice hkn
  have hfm := va_Zqof (A := fun q : Nat => s.heap.size ≤ q) (ht t_fm) (ht t_iP) (hm n_fm) hA
  obtain ⟨fm, hfm⟩ : ∃ fm : Nat, va_Z "jdk/internal/util/Preconditions" "SIOOBE_FORMATTER" "Ljava/util/function/BiFunction;" .null (fun q : Nat => s.heap.size ≤ q) s s.heap ∨ va_Z "jdk/internal/util/Preconditions" "SIOOBE_FORMATTER" "Ljava/util/function/BiFunction;" (.ref fm) (fun q : Nat => s.heap.size ≤ q) s s.heap := by
    rcases hfm with h | ⟨t, h⟩
    · exact ⟨0, Or.inl h⟩
    · exact ⟨t, Or.inr h⟩
  let cA : Nat → ClassId := fun j => if j = 1 then c1 else if j = 2 then c2 else if j = 3 then c3 else if j = 4 then c4 else if j < 200 then adK (j - 100) else if j < 300 then adV (j - 200) else if j = 300 then b else if j = 301 then L else if j = 302 then fm else nO (xs (j - 310))
  have cK : ∀ i, i < 21 → cA (100 + i) = adK i := fun i hi => by
    show (if 100 + i = 1 then c1 else if 100 + i = 2 then c2 else if 100 + i = 3 then c3 else if 100 + i = 4 then c4 else if 100 + i < 200 then adK (100 + i - 100) else _) = _
    rw [if_neg (by omega), if_neg (by omega), if_neg (by omega), if_neg (by omega), if_pos (by omega), Nat.add_sub_cancel_left]
  have cV : ∀ i, i < 21 → cA (200 + i) = adV i := fun i hi => by
    show (if 200 + i = 1 then c1 else if 200 + i = 2 then c2 else if 200 + i = 3 then c3 else if 200 + i = 4 then c4 else if 200 + i < 200 then adK (200 + i - 100) else if 200 + i < 300 then adV (200 + i - 200) else _) = _
    rw [if_neg (by omega), if_neg (by omega), if_neg (by omega), if_neg (by omega), if_neg (by omega), if_pos (by omega), Nat.add_sub_cancel_left]
  have cX : ∀ j, nI (cA (310 + j)) = xs j := fun j => by
    show nI (if 310 + j = 1 then c1 else if 310 + j = 2 then c2 else if 310 + j = 3 then c3 else if 310 + j = 4 then c4 else if 310 + j < 200 then adK (310 + j - 100) else if 310 + j < 300 then adV (310 + j - 200) else if 310 + j = 300 then b else if 310 + j = 301 then L else if 310 + j = 302 then fm else nO (xs (310 + j - 310))) = _
    rw [if_neg (by omega), if_neg (by omega), if_neg (by omega), if_neg (by omega), if_neg (by omega), if_neg (by omega), if_neg (by omega), if_neg (by omega), if_neg (by omega), Nat.add_sub_cancel_left]
    exact nO_eq _
  refine ⟨cA, fun a => cA (a - 1000000 + 100), (fun ci => (dq ci).1, fun ci => (dq ci).2), ⟨fun ci q hq => ?_, fun k q hq => ?_⟩, ⟨vx_Zqof (ht t_un) (ht t_iT) (hm n_un) hA, vx_Zqof (ht t_su) (ht t_iT) (hm n_su) hA, ?_, fun q hq => ?_, va_Zof (ht t_cs) (ht t_iS) (va_eqi (hm n_cs)) hA, hfm, ?_⟩, ⟨fun q hq => va_Nw.of rfl (hts _ ?_), fun X hX => va_Nw.of rfl (hts _ (mem_by t_xc X hX)), fun y hy => va_Nw.of rfl (hts _ (mem_by t_xd y hy)), va_Nc.of (hm n_nc)⟩, fun i hi => ?_, rfl, rfl, cX⟩
  · have hlt : ci < 11 := (List.getElem?_eq_some_iff.mp hq).1
    rw [a_cl ci hlt] at hq
    cases hq
    exact hdq ci hlt
  · match k, hq with
    | 0, hq => cases hq; exact ⟨fun n z => ⟨fun k h => (by cases h), k1, g1, m1, e1⟩, f1⟩
    | 1, hq => cases hq; exact ⟨fun n z => ⟨fun k h => (by cases h), k2, g2, m2, e2⟩, f2⟩
    | 2, hq => cases hq; exact ⟨fun n z => ⟨fun k h => (by cases h), k3, g3, m3, e3⟩, f3⟩
    | 3, hq => cases hq; exact ⟨fun n z => ⟨fun k h => (by cases h), k4, g4, m4, e4⟩, f4⟩
    | k + 4, hq => simp [am_ty] at hq
  · obtain ⟨hv1, hv2⟩ := hvk
    refine ⟨fun i hi => ?_, fun i j hi hj e => ?_⟩
    · rw [show (fun i => cA (100 + i)) i = adK i from cK i hi, show (fun i => cA (200 + i)) i = adV i from cV i hi]
      exact hv1 i hi
    · have e : cA (100 + i) = cA (100 + j) := e
      rw [cK i hi, cK j hj] at e
      exact hv2 i j hi hj e
  · obtain ⟨hq21, hqt⟩ := sR_tm q hq
    refine ⟨show (Cond.stringRef q.1 q.2.1 q.2.2.1).before #[Value.ref b] s = true from hts _ (mem_by t_sr q hq), ?_⟩
    rw [cK _ hq21]
    rcases hqt with h | ⟨h1, h2, h3⟩
    · rw [st_ev (A' := #[Value.ref b]), h]
      exact hev _ hq21
    · rw [h1, h2, h3, st_ev (A' := #[Value.ref b])]
      obtain ⟨y, hy1, hy2⟩ := Cond.eq_one (hm n_85)
      have h2 := hev 2 (by decide)
      have : (Term.string "RiddleDoors$Reader" 121).eval #[Value.ref b] s none [] s = some (.ref (adK 2)) := h2
      rw [this] at hy1
      cases hy1
      exact hy2
  · obtain ⟨scr, h1, h2, h3, h4, h5⟩ := hX
    refine ⟨scr, h1, h2, h3, by rw [h4]; exact Nat.le_refl _, by rw [h4]; rfl, fun j hj => ?_, hA b hbl⟩
    have hj : j < L := hj
    rw [h5 j hj]
    show some (Value.int (xs j)) = some (Value.int (nI (cA (310 + j))))
    rw [cX j]
  · exact mem_by nw_in q hq
  · show cA (1000000 + i - 1000000 + 100) = cA (100 + i)
    rw [Nat.add_sub_cancel_left, Nat.add_comm]
