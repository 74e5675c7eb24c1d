/-- the words that every call hands on -/
def gw : List Cond := lw_tbl.filter goodWord
theorem gw_of {w : Cond} (i : Nat) (h : lw_tbl[i]? = some w) (g : goodWord w = true) : w ∈ gw := List.mem_filter.mpr ⟨List.mem_of_getElem? h, g⟩
theorem gw_in {ws : List Cond} (ps : List Nat) (h : ps.map (fun i => lw_tbl[i]?) = ws.map some) (g : ws.all goodWord = true) : ∀ w ∈ ws, w ∈ gw := by
  intro w hw
  obtain ⟨j, hj⟩ := List.getElem?_of_mem hw
  have h1 : (ps.map (fun i => lw_tbl[i]?))[j]? = some (some w) := by rw [h, List.getElem?_map, hj]; rfl
  rw [List.getElem?_map] at h1
  cases hp : ps[j]? with
  | none => rw [hp] at h1; cases h1
  | some i =>
    rw [hp] at h1
    exact gw_of i (Option.some.inj h1) (List.all_eq_true.mp g w hw)
theorem gt1 {w : Cond} (j : Nat) (h : tables_1_1[j]? = some w) (g : goodWord w = true) : w ∈ gw := by
  have h9 := List.mem_of_getElem? h
  have h8 : w ∈ tables_1 := List.mem_append_left _ h9
  exact List.mem_filter.mpr ⟨List.mem_append_right _ h8, g⟩
theorem gt2 {w : Cond} (j : Nat) (h : tables_1_2[j]? = some w) (g : goodWord w = true) : w ∈ gw := by
  have h9 := List.mem_of_getElem? h
  have h8 : w ∈ tables_1 := List.mem_append_right _ (List.mem_append_left _ h9)
  exact List.mem_filter.mpr ⟨List.mem_append_right _ h8, g⟩
theorem gt3 {w : Cond} (j : Nat) (h : tables_1_3[j]? = some w) (g : goodWord w = true) : w ∈ gw := by
  have h9 := List.mem_of_getElem? h
  have h8 : w ∈ tables_1 := List.mem_append_right _ (List.mem_append_right _ (List.mem_append_left _ h9))
  exact List.mem_filter.mpr ⟨List.mem_append_right _ h8, g⟩
theorem gt4 {w : Cond} (j : Nat) (h : tables_1_4[j]? = some w) (g : goodWord w = true) : w ∈ gw := by
  have h9 := List.mem_of_getElem? h
  have h8 : w ∈ tables_1 := List.mem_append_right _ (List.mem_append_right _ (List.mem_append_right _ (List.mem_append_left _ h9)))
  exact List.mem_filter.mpr ⟨List.mem_append_right _ h8, g⟩
theorem gt5 {w : Cond} (j : Nat) (h : tables_1_5[j]? = some w) (g : goodWord w = true) : w ∈ gw := by
  have h9 := List.mem_of_getElem? h
  have h8 : w ∈ tables_1 := List.mem_append_right _ (List.mem_append_right _ (List.mem_append_right _ (List.mem_append_right _ (List.mem_append_left _ h9))))
  exact List.mem_filter.mpr ⟨List.mem_append_right _ h8, g⟩
theorem gt6 {w : Cond} (j : Nat) (h : tables_1_6[j]? = some w) (g : goodWord w = true) : w ∈ gw := by
  have h9 := List.mem_of_getElem? h
  have h8 : w ∈ tables_1 := List.mem_append_right _ (List.mem_append_right _ (List.mem_append_right _ (List.mem_append_right _ (List.mem_append_right _ (List.mem_append_left _ h9)))))
  exact List.mem_filter.mpr ⟨List.mem_append_right _ h8, g⟩
theorem gt7 {w : Cond} (j : Nat) (h : tables_1_7[j]? = some w) (g : goodWord w = true) : w ∈ gw := by
  have h9 := List.mem_of_getElem? h
  have h8 : w ∈ tables_1 := List.mem_append_right _ (List.mem_append_right _ (List.mem_append_right _ (List.mem_append_right _ (List.mem_append_right _ (List.mem_append_right _ (List.mem_append_left _ h9))))))
  exact List.mem_filter.mpr ⟨List.mem_append_right _ h8, g⟩
theorem gt8 {w : Cond} (j : Nat) (h : tables_1_8[j]? = some w) (g : goodWord w = true) : w ∈ gw := by
  have h9 := List.mem_of_getElem? h
  have h8 : w ∈ tables_1 := List.mem_append_right _ (List.mem_append_right _ (List.mem_append_right _ (List.mem_append_right _ (List.mem_append_right _ (List.mem_append_right _ (List.mem_append_right _ (List.mem_append_left _ h9)))))))
  exact List.mem_filter.mpr ⟨List.mem_append_right _ h8, g⟩
theorem gt9 {w : Cond} (j : Nat) (h : tables_1_9[j]? = some w) (g : goodWord w = true) : w ∈ gw := by
  have h9 := List.mem_of_getElem? h
  have h8 : w ∈ tables_1 := List.mem_append_right _ (List.mem_append_right _ (List.mem_append_right _ (List.mem_append_right _ (List.mem_append_right _ (List.mem_append_right _ (List.mem_append_right _ (List.mem_append_right _ (h9))))))))
  exact List.mem_filter.mpr ⟨List.mem_append_right _ h8, g⟩
theorem gs1 {q : MethodName × Nat} (j : Nat) (h : lw_privs_1[j]? = some q) : Cond.selects q.1.cls q.1 q.1 ∈ gw := by
  have h9 := List.mem_of_getElem? h
  have h8 : q ∈ lw_privs := List.mem_append_left _ h9
  exact List.mem_filter.mpr ⟨List.mem_append_left _ (List.mem_map.mpr ⟨q, h8, rfl⟩), rfl⟩
theorem gs2 {q : MethodName × Nat} (j : Nat) (h : lw_privs_2[j]? = some q) : Cond.selects q.1.cls q.1 q.1 ∈ gw := by
  have h9 := List.mem_of_getElem? h
  have h8 : q ∈ lw_privs := List.mem_append_right _ (List.mem_append_left _ h9)
  exact List.mem_filter.mpr ⟨List.mem_append_left _ (List.mem_map.mpr ⟨q, h8, rfl⟩), rfl⟩
theorem gs3 {q : MethodName × Nat} (j : Nat) (h : lw_privs_3[j]? = some q) : Cond.selects q.1.cls q.1 q.1 ∈ gw := by
  have h9 := List.mem_of_getElem? h
  have h8 : q ∈ lw_privs := List.mem_append_right _ (List.mem_append_right _ (List.mem_append_left _ h9))
  exact List.mem_filter.mpr ⟨List.mem_append_left _ (List.mem_map.mpr ⟨q, h8, rfl⟩), rfl⟩
theorem gs4 {q : MethodName × Nat} (j : Nat) (h : lw_privs_4[j]? = some q) : Cond.selects q.1.cls q.1 q.1 ∈ gw := by
  have h9 := List.mem_of_getElem? h
  have h8 : q ∈ lw_privs := List.mem_append_right _ (List.mem_append_right _ (List.mem_append_right _ (List.mem_append_left _ h9)))
  exact List.mem_filter.mpr ⟨List.mem_append_left _ (List.mem_map.mpr ⟨q, h8, rfl⟩), rfl⟩
theorem gs5 {q : MethodName × Nat} (j : Nat) (h : lw_privs_5[j]? = some q) : Cond.selects q.1.cls q.1 q.1 ∈ gw := by
  have h9 := List.mem_of_getElem? h
  have h8 : q ∈ lw_privs := List.mem_append_right _ (List.mem_append_right _ (List.mem_append_right _ (List.mem_append_right _ (List.mem_append_left _ h9))))
  exact List.mem_filter.mpr ⟨List.mem_append_left _ (List.mem_map.mpr ⟨q, h8, rfl⟩), rfl⟩
theorem gs6 {q : MethodName × Nat} (j : Nat) (h : lw_privs_6[j]? = some q) : Cond.selects q.1.cls q.1 q.1 ∈ gw := by
  have h9 := List.mem_of_getElem? h
  have h8 : q ∈ lw_privs := List.mem_append_right _ (List.mem_append_right _ (List.mem_append_right _ (List.mem_append_right _ (List.mem_append_right _ (List.mem_append_left _ h9)))))
  exact List.mem_filter.mpr ⟨List.mem_append_left _ (List.mem_map.mpr ⟨q, h8, rfl⟩), rfl⟩
theorem gs7 {q : MethodName × Nat} (j : Nat) (h : lw_privs_7[j]? = some q) : Cond.selects q.1.cls q.1 q.1 ∈ gw := by
  have h9 := List.mem_of_getElem? h
  have h8 : q ∈ lw_privs := List.mem_append_right _ (List.mem_append_right _ (List.mem_append_right _ (List.mem_append_right _ (List.mem_append_right _ (List.mem_append_right _ (List.mem_append_left _ h9))))))
  exact List.mem_filter.mpr ⟨List.mem_append_left _ (List.mem_map.mpr ⟨q, h8, rfl⟩), rfl⟩
theorem gs8 {q : MethodName × Nat} (j : Nat) (h : lw_privs_8[j]? = some q) : Cond.selects q.1.cls q.1 q.1 ∈ gw := by
  have h9 := List.mem_of_getElem? h
  have h8 : q ∈ lw_privs := List.mem_append_right _ (List.mem_append_right _ (List.mem_append_right _ (List.mem_append_right _ (List.mem_append_right _ (List.mem_append_right _ (List.mem_append_right _ (h9)))))))
  exact List.mem_filter.mpr ⟨List.mem_append_left _ (List.mem_map.mpr ⟨q, h8, rfl⟩), rfl⟩
def aR (ci : Nat) : String := match ci with
  | 0 => RX0
  | 1 => RX1
  | 2 => RX2
  | 3 => RX3
  | 4 => RX4
  | 5 => RX5
  | 6 => RX6
  | 7 => RX7
  | 8 => RX8
  | 9 => RX9
  | _ => RX10
def aT (ci : Nat) : u_T := match ci with
  | 0 => TX0
  | 1 => TX1
  | 2 => TX2
  | 3 => TX3
  | 4 => TX4
  | 5 => TX5
  | 6 => TX6
  | 7 => TX7
  | 8 => TX8
  | 9 => TX9
  | _ => TX10
def aN (ci : Nat) : Nat := match ci with
  | 0 => 5
  | 1 => 1
  | 2 => 8
  | 3 => 4
  | 4 => 2
  | 5 => 13
  | 6 => 11
  | 7 => 15
  | 8 => 7
  | 9 => 19
  | _ => 98
def aY (ci : Nat) : Nat → FieldType := match ci with
  | 0 => tyX0
  | 1 => tyX1
  | 2 => tyX2
  | 3 => tyX3
  | 4 => tyX4
  | 5 => tyX5
  | 6 => tyX6
  | 7 => tyX7
  | 8 => tyX8
  | 9 => tyX9
  | _ => tyX10
theorem a_cl : ∀ ci, ci < 11 → vwCl[ci]? = some (aR ci, aT ci, aN ci) := by
  intro ci h
  match ci, h with
  | 0, _ => exact rfl
  | 1, _ => exact rfl
  | 2, _ => exact rfl
  | 3, _ => exact rfl
  | 4, _ => exact rfl
  | 5, _ => exact rfl
  | 6, _ => exact rfl
  | 7, _ => exact rfl
  | 8, _ => exact rfl
  | 9, _ => exact rfl
  | 10, _ => exact rfl
  | k + 11, h => exact absurd h (by omega)
theorem a_ty : ∀ ci, ci < 11 → ∀ k, k < aN ci → parseFieldDescriptor (aT ci k).2.2.1 = some (aY ci k) := by
  intro ci h
  match ci, h with
  | 0, _ => exact tyX0_ok
  | 1, _ => exact tyX1_ok
  | 2, _ => exact tyX2_ok
  | 3, _ => exact tyX3_ok
  | 4, _ => exact tyX4_ok
  | 5, _ => exact tyX5_ok
  | 6, _ => exact tyX6_ok
  | 7, _ => exact tyX7_ok
  | 8, _ => exact tyX8_ok
  | 9, _ => exact tyX9_ok
  | 10, _ => exact tyX10_ok
  | k + 11, h => exact absurd h (by omega)
theorem a_nm : ∀ ci, ci < 11 → ∀ a, a < aN ci → ∀ b, b < aN ci → a ≠ b → (aT ci a).2.1 ≠ (aT ci b).2.1 := by
  intro ci h
  match ci, h with
  | 0, _ => exact nmX0
  | 1, _ => exact nmX1
  | 2, _ => exact nmX2
  | 3, _ => exact nmX3
  | 4, _ => exact nmX4
  | 5, _ => exact nmX5
  | 6, _ => exact nmX6
  | 7, _ => exact nmX7
  | 8, _ => exact nmX8
  | 9, _ => exact nmX9
  | 10, _ => exact nmX10
  | k + 11, h => exact absurd h (by omega)
set_option maxRecDepth 100000 in
theorem a_in0 : ∀ w ∈ u_ws RX0 TX0 5, w ∈ gw := gw_in [333, 335, 337, 339, 341] (by decide +kernel) (by decide +kernel)
set_option maxRecDepth 100000 in
theorem a_in1 : ∀ w ∈ u_ws RX1 TX1 1, w ∈ gw := gw_in [449] (by decide +kernel) (by decide +kernel)
set_option maxRecDepth 100000 in
theorem a_in2 : ∀ w ∈ u_ws RX2 TX2 8, w ∈ gw := gw_in [253, 255, 257, 259, 261, 263, 265, 267] (by decide +kernel) (by decide +kernel)
set_option maxRecDepth 100000 in
theorem a_in3 : ∀ w ∈ u_ws RX3 TX3 4, w ∈ gw := gw_in [354, 356, 358, 360] (by decide +kernel) (by decide +kernel)
set_option maxRecDepth 100000 in
theorem a_in4 : ∀ w ∈ u_ws RX4 TX4 2, w ∈ gw := gw_in [462, 464] (by decide +kernel) (by decide +kernel)
set_option maxRecDepth 100000 in
theorem a_in5 : ∀ w ∈ u_ws RX5 TX5 13, w ∈ gw := gw_in [415, 417, 419, 421, 423, 425, 427, 429, 431, 433, 435, 437, 439] (by decide +kernel) (by decide +kernel)
set_option maxRecDepth 100000 in
theorem a_in6 : ∀ w ∈ u_ws RX6 TX6 11, w ∈ gw := gw_in [293, 295, 297, 299, 301, 303, 305, 307, 309, 311, 313] (by decide +kernel) (by decide +kernel)
set_option maxRecDepth 100000 in
theorem a_in7 : ∀ w ∈ u_ws RX7 TX7 15, w ∈ gw := gw_in [196, 198, 200, 202, 204, 206, 208, 210, 212, 214, 216, 218, 220, 222, 224] (by decide +kernel) (by decide +kernel)
set_option maxRecDepth 100000 in
theorem a_in8 : ∀ w ∈ u_ws RX8 TX8 7, w ∈ gw := gw_in [379, 381, 383, 385, 387, 389, 391] (by decide +kernel) (by decide +kernel)
set_option maxRecDepth 100000 in
theorem a_in9 : ∀ w ∈ u_ws RX9 TX9 19, w ∈ gw := gw_in [486, 488, 490, 492, 494, 496, 498, 500, 502, 504, 506, 508, 510, 512, 514, 516, 518, 520, 522] (by decide +kernel) (by decide +kernel)
set_option maxRecDepth 100000 in
theorem a_in10 : ∀ w ∈ u_ws RX10 TX10 98, w ∈ gw := gw_in [1509, 1511, 1513, 1515, 1517, 1519, 1521, 1523, 1525, 1527, 1529, 1531, 1533, 1535, 1537, 1539, 1541, 1543, 1545, 1547, 1549, 1551, 1553, 1555, 1557, 1559, 1561, 1563, 1565, 1567, 1569, 1571, 1573, 1575, 1577, 1579, 1581, 1583, 1585, 1587, 1589, 1591, 1593, 1595, 1597, 1599, 1601, 1603, 1605, 1607, 1609, 1611, 1613, 1615, 1617, 1619, 1621, 1623, 1625, 1627, 1629, 1631, 1633, 1635, 1637, 1639, 1641, 1643, 1645, 1647, 1649, 1651, 1653, 1655, 1657, 1659, 1661, 1663, 1665, 1667, 1669, 1671, 1673, 1675, 1677, 1679, 1681, 1683, 1685, 1687, 1689, 1691, 1693, 1695, 1697, 1699, 1701, 1703] (by decide +kernel) (by decide +kernel)
theorem a_in : ∀ ci, ci < 11 → ∀ w ∈ u_ws (aR ci) (aT ci) (aN ci), w ∈ gw := by
  intro ci h
  match ci, h with
  | 0, _ => exact a_in0
  | 1, _ => exact a_in1
  | 2, _ => exact a_in2
  | 3, _ => exact a_in3
  | 4, _ => exact a_in4
  | 5, _ => exact a_in5
  | 6, _ => exact a_in6
  | 7, _ => exact a_in7
  | 8, _ => exact a_in8
  | 9, _ => exact a_in9
  | 10, _ => exact a_in10
  | k + 11, h => exact absurd h (by omega)
theorem a_ini : ∀ ci, ci < 11 → Cond.initialized (aR ci) ∈ gw := by
  intro ci h
  match ci, h with
  | 0, _ => exact gw_of 127 (by decide +kernel) rfl
  | 1, _ => exact gw_of 131 (by decide +kernel) rfl
  | 2, _ => exact gw_of 125 (by decide +kernel) rfl
  | 3, _ => exact gw_of 128 (by decide +kernel) rfl
  | 4, _ => exact gw_of 132 (by decide +kernel) rfl
  | 5, _ => exact gw_of 130 (by decide +kernel) rfl
  | 6, _ => exact gw_of 126 (by decide +kernel) rfl
  | 7, _ => exact gw_of 124 (by decide +kernel) rfl
  | 8, _ => exact gw_of 129 (by decide +kernel) rfl
  | 9, _ => exact gw_of 123 (by decide +kernel) rfl
  | 10, _ => exact gw_of 133 (by decide +kernel) rfl
  | k + 11, h => exact absurd h (by omega)
theorem a_ac1 : Cond.arrayClass .int ∈ gw := gw_of 228 (by decide +kernel) rfl
theorem a_ac2 : Cond.arrayClass .byte ∈ gw := gw_of 227 (by decide +kernel) rfl
theorem a_ac3 : Cond.arrayClass .boolean ∈ gw := gw_of 1706 (by decide +kernel) rfl
theorem a_ac4 : Cond.arrayClass .long ∈ gw := gw_of 316 (by decide +kernel) rfl
/-- links of nest mates: the words that no call hands on by itself -/
def nw : List (String × Nat × MethodName × String) := [("RiddleDoors", 26, ⟨"RiddleDoors$Street", "<init>", "()V"⟩, "RiddleDoors"), ("RiddleDoors", 36, ⟨"RiddleDoors$Life", "<init>", "()V"⟩, "RiddleDoors"), ("RiddleDoors", 53, ⟨"RiddleDoors$Search", "<init>", "()V"⟩, "RiddleDoors"), ("RiddleDoors", 63, ⟨"RiddleDoors$Asking", "<init>", "()V"⟩, "RiddleDoors"), ("RiddleDoors$Asking", 11, ⟨"RiddleDoors$Search", "<init>", "()V"⟩, "RiddleDoors"), ("RiddleDoors", 70, ⟨"RiddleDoors$Looking", "<init>", "()V"⟩, "RiddleDoors"), ("RiddleDoors", 77, ⟨"RiddleDoors$Walking", "<init>", "()V"⟩, "RiddleDoors"), ("RiddleDoors", 84, ⟨"RiddleDoors$Reader", "<init>", "()V"⟩, "RiddleDoors"), ("RiddleDoors", 91, ⟨"RiddleDoors$Draws", "<init>", "()V"⟩, "RiddleDoors"), ("RiddleDoors", 98, ⟨"RiddleDoors$Page", "<init>", "()V"⟩, "RiddleDoors")]
/-- words of a throw that no call hands on by itself -/
def xc : List String := ["java/lang/IllegalArgumentException", "java/util/NoSuchElementException"]
def xd : List MethodName := [Bundle.init0 "java/lang/RuntimeException", Bundle.init0 "java/lang/Exception", Bundle.init0 Bundle.tN]
def am_N (U : State) : Prop := (∀ q ∈ nw, va_Nw (.methodLinkNest q.1 q.2.1 q.2.2.1 q.2.2.2) U) ∧ (∀ X ∈ xc, va_Nw (.castable X X) U) ∧ (∀ y ∈ xd, va_Nw (.declares y) U) ∧ va_Nc "java/lang/IllegalArgumentException" "java/util/NoSuchElementException" U
theorem am_N.same {u U : State} (h : u.vm = U.vm) (hN : am_N u) : am_N U := ⟨fun q hq => (hN.1 q hq).same rfl h, fun q hq => (hN.2.1 q hq).same rfl h, fun q hq => (hN.2.2.1 q hq).same rfl h, va_Nc.moved (u := u) (by rw [h]; exact Vm.Alike.refl _) hN.2.2.2⟩
theorem am_N.warm {s U : State} (hW : s.WarmedH U.vm) (hN : am_N s) : am_N U := by
  have tr : ∀ {c : Cond}, c.onTables = true → c.before #[] (s.setVm U.vm) = true → c.before #[] U = true := by
    intro c hc h
    have e := Cond.onTables_vm (A := #[]) (A' := #[]) (U := s) (U' := U) U.vm c hc
    have hU : U.setVm U.vm = U := rfl
    rw [hU] at e
    rw [← e]
    exact h
  exact ⟨fun q hq => (hN.1 q hq).warmM hW, fun X hX => tr rfl (by rw [Cond.castable_setVm hW.alike]; exact hN.2.1 X hX), fun y hy => tr rfl (by rw [Cond.declares_setVm hW.alike]; exact hN.2.2.1 y hy), va_Nc.moved hW.alike hN.2.2.2⟩
set_option maxRecDepth 100000 in
theorem nw_in : [159, 231, 272, 319, 324, 346, 365, 396, 444, 454].map (fun i => lw_tbl[i]?) = nw.map (fun q => some (Cond.methodLinkNest q.1 q.2.1 q.2.2.1 q.2.2.2)) := by decide +kernel
