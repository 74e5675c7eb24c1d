/-! DOORS AND HINTS: the least set that tells; the class -/
def apB (nm : Nat → Nat → Nat) (c H D i : Nat) : Bool := (List.range' 0 c).all fun j => decide (i = j) || !agB nm H D i j
def allB (nm : Nat → Nat → Nat) (c H D : Nat) : Bool := (List.range' 0 c).all fun i => apB nm c H D i
theorem apB_iff {nm : Nat → Nat → Nat} {c H D i : Nat} : apB nm c H D i = true ↔ ∀ j, j < c → i ≠ j → agB nm H D i j = false := by
  unfold apB
  rw [List.all_eq_true]
  constructor
  · intro h j hj hij
    have := h j (List.mem_range'_1.mpr (by omega))
    rw [decide_eq_false hij, Bool.false_or] at this
    simpa using this
  · intro h j hj
    have hj := List.mem_range'_1.mp hj
    by_cases q : i = j
    · simp [q]
    · rw [h j (by omega) q]; simp
theorem apB_cl {nm : Nat → Nat → Nat} {c H D i : Nat} (hi : i < c) : clB nm c H D i = 2 ^ i ↔ apB nm c H D i = true := by
  rw [apB_iff]
  constructor
  · intro h j hj hij
    cases hx : agB nm H D i j
    · rfl
    · have hb : (clB nm c H D i).testBit j = true := by unfold clB; rw [alB_bit, hx, decide_eq_true hj]; rfl
      rw [h, Nat.testBit_two_pow, decide_eq_true_iff] at hb
      exact absurd hb hij
  · intro h
    apply tb_ext
    intro j
    rw [Nat.testBit_two_pow]
    unfold clB
    rw [alB_bit]
    by_cases q : i = j
    · subst q
      rw [decide_eq_true hi, decide_eq_true rfl, agB_iff.mpr (fun _ _ _ => rfl)]
      rfl
    · rw [decide_eq_false q]
      by_cases hj : j < c
      · rw [h j hj q, Bool.and_false]
      · rw [decide_eq_false hj, Bool.false_and]
theorem clB_s {nm : Nat → Nat → Nat} {c k D i : Nat} (hi : i < c) : clB nm c (k + 1) D i = if D.testBit k = true then clB nm c k D i &&& alF nm c k i else clB nm c k D i := by
  apply tb_ext
  intro j
  apply b_iff
  by_cases q : D.testBit k = true
  · rw [if_pos q, Nat.testBit_and, Bool.and_eq_true, clB_bit, clB_bit, alF_O nm c (k + 1) k (by omega) i j hi]
    constructor
    · exact fun h => ⟨⟨h.1, fun x hx hD => h.2 x (by omega) hD⟩, h.1, h.2 k (by omega) q⟩
    · rintro ⟨⟨h1, h2⟩, -, h3⟩
      refine ⟨h1, fun x hx hD => ?_⟩
      rcases Nat.lt_or_ge x k with r | r
      · exact h2 x r hD
      · rw [show x = k by omega]; exact h3
  · rw [if_neg q, clB_bit, clB_bit]
    constructor
    · exact fun h => ⟨h.1, fun x hx hD => h.2 x (by omega) hD⟩
    · refine fun h => ⟨h.1, fun x hx hD => ?_⟩
      rcases Nat.lt_or_ge x k with r | r
      · exact h.2 x r hD
      · rw [show x = k by omega] at hD; exact absurd hD q
/-- the least, by how many and by value -/
def lsP (Q : Nat → Bool) (N : Nat) : Option Nat → Prop
  | none => ∀ y, y < N → Q y = false
  | some x => x < N ∧ Q x = true ∧ ∀ y, y < N → Q y = true → pc8 x < pc8 y ∨ (pc8 x = pc8 y ∧ x ≤ y)
theorem lsP.un {Q : Nat → Bool} {N : Nat} {a b : Option Nat} (ha : lsP Q N a) (hb : lsP Q N b) : a = b := by
  cases a with
  | none => cases b with
    | none => rfl
    | some y => have := ha y hb.1; rw [hb.2.1] at this; exact nomatch this
  | some x => cases b with
    | none => have := hb x ha.1; rw [ha.2.1] at this; exact nomatch this
    | some y =>
      have h1 := ha.2.2 y hb.1 hb.2.1
      have h2 := hb.2.2 x ha.1 ha.2.1
      congr 1
      omega
def smI (Q : Nat → Bool) (z : Nat) : Nat → Nat → Option Nat
  | 0, _ => none
  | k + 1, s => if (decide (pc8 s = z) && Q s) = true then some s else smI Q z k (s + 1)
def smC (Q : Nat → Bool) (N : Nat) : Nat → Nat → Option Nat
  | 0, _ => none
  | k + 1, z => match smI Q z N 0 with
    | some x => some x
    | none => smC Q N k (z + 1)
def oI : Option Nat → Int32
  | none => -1
  | some x => nI x
theorem smI_some {Q : Nat → Bool} {z : Nat} : ∀ (k s : Nat) {x : Nat}, smI Q z k s = some x → s ≤ x ∧ x < s + k ∧ pc8 x = z ∧ Q x = true ∧ ∀ y, s ≤ y → y < x → pc8 y = z → Q y = false
  | 0, _, _, h => nomatch h
  | k + 1, s, x, h => by
    unfold smI at h
    split at h
    · rename_i q
      cases h
      rw [Bool.and_eq_true, decide_eq_true_iff] at q
      exact ⟨by omega, by omega, q.1, q.2, fun y a b => by omega⟩
    · rename_i q
      obtain ⟨h1, h2, h3, h4, h5⟩ := smI_some k (s + 1) h
      refine ⟨by omega, by omega, h3, h4, fun y a b c => ?_⟩
      rcases Nat.lt_or_ge s y with r | r
      · exact h5 y r b c
      · have e : y = s := by omega
        subst e
        rw [decide_eq_true c, Bool.true_and] at q
        simpa using q
theorem smI_none {Q : Nat → Bool} {z : Nat} : ∀ (k s : Nat), smI Q z k s = none → ∀ y, s ≤ y → y < s + k → pc8 y = z → Q y = false
  | 0, _, _, y, a, b, _ => by omega
  | k + 1, s, h, y, a, b, c => by
    unfold smI at h
    split at h
    · exact nomatch h
    · rename_i q
      rcases Nat.lt_or_ge s y with r | r
      · exact smI_none k (s + 1) h y r (by omega) c
      · have e : y = s := by omega
        subst e
        rw [decide_eq_true c, Bool.true_and] at q
        simpa using q
theorem smC_ls {Q : Nat → Bool} {N H : Nat} (hN : ∀ y, y < N → pc8 y ≤ H) : ∀ (k z : Nat), z + k = H + 1 → (∀ y, y < N → pc8 y < z → Q y = false) → lsP Q N (smC Q N k z)
  | 0, z, hz, h => fun y hy => h y hy (by have := hN y hy; omega)
  | k + 1, z, hz, h => by
    unfold smC
    cases hx : smI Q z N 0 with
    | some x =>
      obtain ⟨h1, h2, h3, h4, h5⟩ := smI_some N 0 hx
      refine ⟨by omega, h4, fun y hy hq => ?_⟩
      rcases Nat.lt_or_ge (pc8 y) z with r | r
      · rw [h y hy r] at hq; exact nomatch hq
      · by_cases e : pc8 y = z
        · right
          refine ⟨by omega, ?_⟩
          rcases Nat.lt_or_ge y x with t | t
          · rw [h5 y (by omega) t e] at hq; exact nomatch hq
          · exact t
        · left; omega
    | none =>
      refine smC_ls hN k (z + 1) (by omega) (fun y hy hp => ?_)
      rcases Nat.lt_or_ge (pc8 y) z with r | r
      · exact h y hy r
      · exact smI_none N 0 hx y (by omega) (by omega) (by omega)
theorem pc_H : ∀ H, H ≤ 8 → ∀ y, y < 256 → y < 2 ^ H → pc8 y ≤ H := by decide +kernel
theorem sh1_8 : ∀ H, H ≤ 8 → nI 1 <<< (nI H &&& 31) = nI (2 ^ H) := by decide +kernel
def lkM (kd : mK) (I : mI) (J : mJ) (P : mP) (k c H : Nat) (nm : Nat → Nat → Nat) : Prop := kG kd P k ∧ I k 0 = nI H ∧ I k 1 = nI c ∧ (∀ h i, h < H → i < c → J (k + 1) (h * 40 + i) = jN (alF nm c h i)) ∧ c ≤ 40 ∧ H ≤ 8
theorem dX3_tellsApart_0 : decode cX3_tellsApart 0 = .ok (.aload_n 0, 1) := by decide +kernel
theorem dX3_tellsApart_1 : decode cX3_tellsApart 1 = .ok (.invokevirtual 44, 3) := by decide +kernel
theorem dX3_tellsApart_4 : decode cX3_tellsApart 4 = .ok (.lstore_n 3, 1) := by decide +kernel
theorem dX3_tellsApart_5 : decode cX3_tellsApart 5 = .ok (.iconst 0, 1) := by decide +kernel
theorem dX3_tellsApart_6 : decode cX3_tellsApart 6 = .ok (.istore 5, 2) := by decide +kernel
theorem dX3_tellsApart_8 : decode cX3_tellsApart 8 = .ok (.iload 5, 2) := by decide +kernel
theorem dX3_tellsApart_10 : decode cX3_tellsApart 10 = .ok (.aload_n 0, 1) := by decide +kernel
theorem dX3_tellsApart_11 : decode cX3_tellsApart 11 = .ok (.getfield 9, 3) := by decide +kernel
theorem dX3_tellsApart_14 : decode cX3_tellsApart 14 = .ok (.if_icmp .ge 33, 3) := by decide +kernel
theorem dX3_tellsApart_17 : decode cX3_tellsApart 17 = .ok (.iload_n 1, 1) := by decide +kernel
theorem dX3_tellsApart_18 : decode cX3_tellsApart 18 = .ok (.iload 5, 2) := by decide +kernel
theorem dX3_tellsApart_20 : decode cX3_tellsApart 20 = .ok (.ishr, 1) := by decide +kernel
theorem dX3_tellsApart_21 : decode cX3_tellsApart 21 = .ok (.iconst 1, 1) := by decide +kernel
theorem dX3_tellsApart_22 : decode cX3_tellsApart 22 = .ok (.iand, 1) := by decide +kernel
theorem dX3_tellsApart_23 : decode cX3_tellsApart 23 = .ok (.ifCond .eq 18, 3) := by decide +kernel
theorem dX3_tellsApart_26 : decode cX3_tellsApart 26 = .ok (.lload_n 3, 1) := by decide +kernel
theorem dX3_tellsApart_27 : decode cX3_tellsApart 27 = .ok (.aload_n 0, 1) := by decide +kernel
theorem dX3_tellsApart_28 : decode cX3_tellsApart 28 = .ok (.getfield 18, 3) := by decide +kernel
theorem dX3_tellsApart_31 : decode cX3_tellsApart 31 = .ok (.iload 5, 2) := by decide +kernel
theorem dX3_tellsApart_33 : decode cX3_tellsApart 33 = .ok (.bipush 40, 2) := by decide +kernel
theorem dX3_tellsApart_35 : decode cX3_tellsApart 35 = .ok (.imul, 1) := by decide +kernel
theorem dX3_tellsApart_36 : decode cX3_tellsApart 36 = .ok (.iload_n 2, 1) := by decide +kernel
theorem dX3_tellsApart_37 : decode cX3_tellsApart 37 = .ok (.iadd, 1) := by decide +kernel
theorem dX3_tellsApart_38 : decode cX3_tellsApart 38 = .ok (.laload, 1) := by decide +kernel
theorem dX3_tellsApart_39 : decode cX3_tellsApart 39 = .ok (.land, 1) := by decide +kernel
theorem dX3_tellsApart_40 : decode cX3_tellsApart 40 = .ok (.lstore_n 3, 1) := by decide +kernel
theorem dX3_tellsApart_41 : decode cX3_tellsApart 41 = .ok (.iinc 5 1, 3) := by decide +kernel
theorem dX3_tellsApart_44 : decode cX3_tellsApart 44 = .ok (.goto (-36), 3) := by decide +kernel
theorem dX3_tellsApart_47 : decode cX3_tellsApart 47 = .ok (.lload_n 3, 1) := by decide +kernel
theorem dX3_tellsApart_48 : decode cX3_tellsApart 48 = .ok (.lconst 1, 1) := by decide +kernel
theorem dX3_tellsApart_49 : decode cX3_tellsApart 49 = .ok (.iload_n 2, 1) := by decide +kernel
theorem dX3_tellsApart_50 : decode cX3_tellsApart 50 = .ok (.lshl, 1) := by decide +kernel
theorem dX3_tellsApart_51 : decode cX3_tellsApart 51 = .ok (.lcmp, 1) := by decide +kernel
theorem dX3_tellsApart_52 : decode cX3_tellsApart 52 = .ok (.ifCond .ne 7, 3) := by decide +kernel
theorem dX3_tellsApart_55 : decode cX3_tellsApart 55 = .ok (.iconst 1, 1) := by decide +kernel
theorem dX3_tellsApart_56 : decode cX3_tellsApart 56 = .ok (.goto 4, 3) := by decide +kernel
theorem dX3_tellsApart_59 : decode cX3_tellsApart 59 = .ok (.iconst 0, 1) := by decide +kernel
theorem dX3_tellsApart_60 : decode cX3_tellsApart 60 = .ok (.ireturn, 1) := by decide +kernel

set_option maxHeartbeats 4000000 in
set_option maxRecDepth 100000 in
theorem ta_loop (k c H : Nat) (nm : Nat → Nat → Nat) (D i : Nat) {n : Nat} {kd : mK} {I : mI} {J : mJ} {P : mP} (hS : lkM kd I J P k c H nm) (hi : i < c) : ∀ (cnt h : Nat), h + cnt = H → Ru yX3_tellsApart.cls cX3_tellsApart 6 (some .boolean) yX3_tellsApart.name 2 (am_is (some (.int (bz (apB nm c H D i)))) n kd I J P) 0 0 8 [some (.ref k), some (.int (nI D)), some (.int (nI i)), some (.long (jN (clB nm c h D i))), none, some (.int (nI h))] [] n kd I J P
  | 0, h, hh => by
    obtain ⟨hG, e0, e1, hJ, hc, hH⟩ := id hS
    have eh : h = H := by omega
    subst eh
    have h40 : clB nm c h D i < 2 ^ 40 := clB_lt hc
    have hp40 : 2 ^ i < 2 ^ 40 := Nat.pow_lt_pow_right (by decide) (by omega)
    by_cases q : clB nm c h D i = 2 ^ i
    · rw [apB_cl hi |>.mp q]
      refine r_iload dX3_tellsApart_8 rfl ?_
      refine r_aload_n dX3_tellsApart_10 rfl ?_
      refine r_getI dX3_tellsApart_11 fl_X3_9 rfl hG.1 ?_
      rw [e0]
      refine r_icmp_ge (tgt := 47) dX3_tellsApart_14 (by decide) (fun _ => ?_) (fun hz => absurd (show _ from (by rw [nI_leI (by omega) (by omega)]; omega)) hz)
      refine r_lload_n dX3_tellsApart_47 rfl ?_
      refine r_lconst (v := 1) dX3_tellsApart_48 (by decide) ?_
      refine r_iload_n dX3_tellsApart_49 rfl ?_
      refine r_lshl dX3_tellsApart_50 ?_
      rw [jN_sh1 i (by omega)]
      refine r_lcmp dX3_tellsApart_51 ?_
      refine r_if_ne (tgt := 59) dX3_tellsApart_52 (by decide) (fun hz => absurd (show _ from ((lg_cmp_eq _ _).mpr (by rw [q]))) hz) (fun _ => ?_)
      refine r_iconst (v := nI 1) dX3_tellsApart_55 (by decide) ?_
      refine r_goto (tgt := 60) dX3_tellsApart_56 (by decide) ?_
      refine r_zret rfl dX3_tellsApart_60 (by first | exact Or.inl rfl | exact Or.inr rfl | assumption) ?_
      exact am_is.mk
    · have q2 : apB nm c h D i = false := by cases hx : apB nm c h D i; rfl; exact absurd ((apB_cl hi).mpr hx) q
      rw [q2]
      refine r_iload dX3_tellsApart_8 rfl ?_
      refine r_aload_n dX3_tellsApart_10 rfl ?_
      refine r_getI dX3_tellsApart_11 fl_X3_9 rfl hG.1 ?_
      rw [e0]
      refine r_icmp_ge (tgt := 47) dX3_tellsApart_14 (by decide) (fun _ => ?_) (fun hz => absurd (show _ from (by rw [nI_leI (by omega) (by omega)]; omega)) hz)
      refine r_lload_n dX3_tellsApart_47 rfl ?_
      refine r_lconst (v := 1) dX3_tellsApart_48 (by decide) ?_
      refine r_iload_n dX3_tellsApart_49 rfl ?_
      refine r_lshl dX3_tellsApart_50 ?_
      rw [jN_sh1 i (by omega)]
      refine r_lcmp dX3_tellsApart_51 ?_
      refine r_if_ne (tgt := 59) dX3_tellsApart_52 (by decide) (fun _ => ?_) (fun hz => absurd hz (show ¬ _ from (fun z => q (jN_inj (by omega) (by omega) ((lg_cmp_eq _ _).mp z)))))
      refine r_iconst (v := nI 0) dX3_tellsApart_59 (by decide) ?_
      refine r_zret rfl dX3_tellsApart_60 (by first | exact Or.inl rfl | exact Or.inr rfl | assumption) ?_
      exact am_is.mk
  | cnt + 1, h, hh => by
    obtain ⟨hG, e0, e1, hJ, hc, hH⟩ := id hS
    have hn := ta_loop (n := n) k c H nm D i hS hi cnt (h + 1) (by omega)
    rw [clB_s hi] at hn
    by_cases q : D.testBit h = true
    · rw [if_pos q] at hn
      refine r_iload dX3_tellsApart_8 rfl ?_
      refine r_aload_n dX3_tellsApart_10 rfl ?_
      refine r_getI dX3_tellsApart_11 fl_X3_9 rfl hG.1 ?_
      rw [e0]
      refine r_icmp_ge (tgt := 47) dX3_tellsApart_14 (by decide) (fun hz => absurd hz (show ¬ _ from (by rw [nI_leI (by omega) (by omega)]; omega))) (fun _ => ?_)
      refine r_iload_n dX3_tellsApart_17 rfl ?_
      refine r_iload dX3_tellsApart_18 rfl ?_
      refine r_ishr dX3_tellsApart_20 ?_
      refine r_iconst (v := nI 1) dX3_tellsApart_21 (by decide) ?_
      refine r_iand dX3_tellsApart_22 ?_
      rw [b_ask _ (by omega), bt_nI _ (by omega)]
      rw [if_pos q]
      refine r_if_eq (tgt := 41) dX3_tellsApart_23 (by decide) (fun hz => absurd hz (show ¬ _ from (by decide))) (fun _ => ?_)
      refine r_lload_n dX3_tellsApart_26 rfl ?_
      refine r_aload_n dX3_tellsApart_27 rfl ?_
      refine r_getR dX3_tellsApart_28 fl_X3_18 rfl hG.1 hG.2.2 ?_
      refine r_iload dX3_tellsApart_31 rfl ?_
      refine r_bipush (v := nI 40) dX3_tellsApart_33 (by decide) ?_
      refine r_imul dX3_tellsApart_35 ?_
      rw [pk_mul]
      refine r_iload_n dX3_tellsApart_36 rfl ?_
      refine r_iadd dX3_tellsApart_37 ?_
      rw [nI_add]
      refine r_lald dX3_tellsApart_38 hG.2.1 (nI_in8 320 (by omega) (by decide)) (nI_clamp (by omega)) ?_
      rw [hJ h i (by omega) hi]
      refine r_land dX3_tellsApart_39 ?_
      rw [jN_and]
      refine r_lstore_n dX3_tellsApart_40 (by decide) ?_
      refine r_iinc (v := nI (h + 1)) dX3_tellsApart_41 rfl (nI_inc h) ?_
      refine r_goto (tgt := 8) dX3_tellsApart_44 (by decide) ?_
      exact hn
    · rw [if_neg q] at hn
      refine r_iload dX3_tellsApart_8 rfl ?_
      refine r_aload_n dX3_tellsApart_10 rfl ?_
      refine r_getI dX3_tellsApart_11 fl_X3_9 rfl hG.1 ?_
      rw [e0]
      refine r_icmp_ge (tgt := 47) dX3_tellsApart_14 (by decide) (fun hz => absurd hz (show ¬ _ from (by rw [nI_leI (by omega) (by omega)]; omega))) (fun _ => ?_)
      refine r_iload_n dX3_tellsApart_17 rfl ?_
      refine r_iload dX3_tellsApart_18 rfl ?_
      refine r_ishr dX3_tellsApart_20 ?_
      refine r_iconst (v := nI 1) dX3_tellsApart_21 (by decide) ?_
      refine r_iand dX3_tellsApart_22 ?_
      rw [b_ask _ (by omega), bt_nI _ (by omega)]
      rw [if_neg q]
      refine r_if_eq (tgt := 41) dX3_tellsApart_23 (by decide) (fun _ => ?_) (fun hz => absurd (show _ from (by decide)) hz)
      refine r_iinc (v := nI (h + 1)) dX3_tellsApart_41 rfl (nI_inc h) ?_
      refine r_goto (tgt := 8) dX3_tellsApart_44 (by decide) ?_
      exact hn

set_option maxHeartbeats 4000000 in
set_option maxRecDepth 100000 in
theorem c_ta (k c H : Nat) (nm : Nat → Nat → Nat) (D i : Nat) {n : Nat} {kd : mK} {I : mI} {J : mJ} {P : mP} (hS : lkM kd I J P k c H nm) (hi : i < c) : Ct yX3_tellsApart cX3_tellsApart 6 (some .boolean) 2 0 0 [.ref k, .int (nI D), .int (nI i)] n kd I J P (am_is (some (.int (bz (apB nm c H D i)))) n kd I J P) := by
  obtain ⟨hG, e0, e1, hJ, hc, hH⟩ := id hS
  have hl := ta_loop (n := n) k c H nm D i hS hi H 0 (by omega)
  rw [show clB nm c 0 D i = 2 ^ c - 1 from tb_ext (fun j => by apply b_iff; rw [clB_bit, Nat.testBit_two_pow_sub_one, decide_eq_true_iff]; exact ⟨fun x => x.1, fun x => ⟨x, fun _ hx => absurd hx (Nat.not_lt_zero _)⟩⟩)] at hl
  refine ct_of 3 (by decide +kernel) (Nat.le_of_ble_eq_true rfl) rfl ?_
  refine r_aload_n dX3_tellsApart_0 rfl ?_
  refine r_virtE (c_X3_allNumberings k c hG hc e1) lk_X3_44 mc_X3_allNumberings dX3_tellsApart_1 hG.1 (by decide) rfl rfl (Nat.le_of_ble_eq_true rfl) ?_
  refine r_lstore_n dX3_tellsApart_4 (by decide) ?_
  refine r_iconst (v := nI 0) dX3_tellsApart_5 (by decide) ?_
  refine r_istore dX3_tellsApart_6 (by decide) ?_
  exact hl

theorem dX3_tellsAllApart_0 : decode cX3_tellsAllApart 0 = .ok (.iconst 0, 1) := by decide +kernel
theorem dX3_tellsAllApart_1 : decode cX3_tellsAllApart 1 = .ok (.istore_n 2, 1) := by decide +kernel
theorem dX3_tellsAllApart_2 : decode cX3_tellsAllApart 2 = .ok (.iload_n 2, 1) := by decide +kernel
theorem dX3_tellsAllApart_3 : decode cX3_tellsAllApart 3 = .ok (.aload_n 0, 1) := by decide +kernel
theorem dX3_tellsAllApart_4 : decode cX3_tellsAllApart 4 = .ok (.getfield 15, 3) := by decide +kernel
theorem dX3_tellsAllApart_7 : decode cX3_tellsAllApart 7 = .ok (.if_icmp .ge 20, 3) := by decide +kernel
theorem dX3_tellsAllApart_10 : decode cX3_tellsAllApart 10 = .ok (.aload_n 0, 1) := by decide +kernel
theorem dX3_tellsAllApart_11 : decode cX3_tellsAllApart 11 = .ok (.iload_n 1, 1) := by decide +kernel
theorem dX3_tellsAllApart_12 : decode cX3_tellsAllApart 12 = .ok (.iload_n 2, 1) := by decide +kernel
theorem dX3_tellsAllApart_13 : decode cX3_tellsAllApart 13 = .ok (.invokevirtual 67, 3) := by decide +kernel
theorem dX3_tellsAllApart_16 : decode cX3_tellsAllApart 16 = .ok (.ifCond .ne 5, 3) := by decide +kernel
theorem dX3_tellsAllApart_19 : decode cX3_tellsAllApart 19 = .ok (.iconst 0, 1) := by decide +kernel
theorem dX3_tellsAllApart_20 : decode cX3_tellsAllApart 20 = .ok (.ireturn, 1) := by decide +kernel
theorem dX3_tellsAllApart_21 : decode cX3_tellsAllApart 21 = .ok (.iinc 2 1, 3) := by decide +kernel
theorem dX3_tellsAllApart_24 : decode cX3_tellsAllApart 24 = .ok (.goto (-22), 3) := by decide +kernel
theorem dX3_tellsAllApart_27 : decode cX3_tellsAllApart 27 = .ok (.iconst 1, 1) := by decide +kernel
theorem dX3_tellsAllApart_28 : decode cX3_tellsAllApart 28 = .ok (.ireturn, 1) := by decide +kernel

set_option maxHeartbeats 4000000 in
set_option maxRecDepth 100000 in
theorem tal_loop (k c H : Nat) (nm : Nat → Nat → Nat) (D : Nat) {n : Nat} {kd : mK} {I : mI} {J : mJ} {P : mP} (hS : lkM kd I J P k c H nm) : ∀ (cnt i : Nat), i + cnt = c → Ru yX3_tellsAllApart.cls cX3_tellsAllApart 3 (some .boolean) yX3_tellsAllApart.name 3 (am_is (some (.int (bz ((List.range' i cnt).all fun i => apB nm c H D i)))) n kd I J P) 0 0 2 [some (.ref k), some (.int (nI D)), some (.int (nI i))] [] n kd I J P
  | 0, i, hh => by
    obtain ⟨hG, e0, e1, hJ, hc, hH⟩ := id hS
    have eh : i = c := by omega
    subst eh
    refine r_iload_n dX3_tellsAllApart_2 rfl ?_
    refine r_aload_n dX3_tellsAllApart_3 rfl ?_
    refine r_getI dX3_tellsAllApart_4 fl_X3_15 rfl hG.1 ?_
    rw [e1]
    refine r_icmp_ge (tgt := 27) dX3_tellsAllApart_7 (by decide) (fun _ => ?_) (fun hz => absurd (show _ from (by rw [nI_leI (by omega) (by omega)]; omega)) hz)
    refine r_iconst (v := nI 1) dX3_tellsAllApart_27 (by decide) ?_
    refine r_zret rfl dX3_tellsAllApart_28 (by first | exact Or.inl rfl | exact Or.inr rfl | assumption) ?_
    exact am_is.mk
  | cnt + 1, i, hh => by
    obtain ⟨hG, e0, e1, hJ, hc, hH⟩ := id hS
    have hn := tal_loop (n := n) k c H nm D hS cnt (i + 1) (by omega)
    rw [List.range'_succ, List.all_cons]
    by_cases q : apB nm c H D i = true
    · rw [q, Bool.true_and]
      refine r_iload_n dX3_tellsAllApart_2 rfl ?_
      refine r_aload_n dX3_tellsAllApart_3 rfl ?_
      refine r_getI dX3_tellsAllApart_4 fl_X3_15 rfl hG.1 ?_
      rw [e1]
      refine r_icmp_ge (tgt := 27) dX3_tellsAllApart_7 (by decide) (fun hz => absurd hz (show ¬ _ from (by rw [nI_leI (by omega) (by omega)]; omega))) (fun _ => ?_)
      refine r_aload_n dX3_tellsAllApart_10 rfl ?_
      refine r_iload_n dX3_tellsAllApart_11 rfl ?_
      refine r_iload_n dX3_tellsAllApart_12 rfl ?_
      refine r_virtE (c_ta k c H nm D i hS (by omega)) lk_X3_67 mc_X3_tellsApart dX3_tellsAllApart_13 hG.1 (by decide) rfl rfl (Nat.le_of_ble_eq_true rfl) ?_
      rw [q]
      refine r_if_ne (tgt := 21) dX3_tellsAllApart_16 (by decide) (fun _ => ?_) (fun hz => absurd hz (show ¬ _ from (by decide)))
      refine r_iinc (v := nI (i + 1)) dX3_tellsAllApart_21 rfl (nI_inc i) ?_
      refine r_goto (tgt := 2) dX3_tellsAllApart_24 (by decide) ?_
      exact hn
    · have q : apB nm c H D i = false := by cases hx : apB nm c H D i; rfl; exact absurd hx q
      rw [q, Bool.false_and]
      refine r_iload_n dX3_tellsAllApart_2 rfl ?_
      refine r_aload_n dX3_tellsAllApart_3 rfl ?_
      refine r_getI dX3_tellsAllApart_4 fl_X3_15 rfl hG.1 ?_
      rw [e1]
      refine r_icmp_ge (tgt := 27) dX3_tellsAllApart_7 (by decide) (fun hz => absurd hz (show ¬ _ from (by rw [nI_leI (by omega) (by omega)]; omega))) (fun _ => ?_)
      refine r_aload_n dX3_tellsAllApart_10 rfl ?_
      refine r_iload_n dX3_tellsAllApart_11 rfl ?_
      refine r_iload_n dX3_tellsAllApart_12 rfl ?_
      refine r_virtE (c_ta k c H nm D i hS (by omega)) lk_X3_67 mc_X3_tellsApart dX3_tellsAllApart_13 hG.1 (by decide) rfl rfl (Nat.le_of_ble_eq_true rfl) ?_
      rw [q]
      refine r_if_ne (tgt := 21) dX3_tellsAllApart_16 (by decide) (fun hz => absurd (show _ from rfl) hz) (fun _ => ?_)
      refine r_iconst (v := nI 0) dX3_tellsAllApart_19 (by decide) ?_
      refine r_zret rfl dX3_tellsAllApart_20 (by first | exact Or.inl rfl | exact Or.inr rfl | assumption) ?_
      exact am_is.mk

set_option maxHeartbeats 4000000 in
set_option maxRecDepth 100000 in
theorem c_tal (k c H : Nat) (nm : Nat → Nat → Nat) (D : Nat) {n : Nat} {kd : mK} {I : mI} {J : mJ} {P : mP} (hS : lkM kd I J P k c H nm) : Ct yX3_tellsAllApart cX3_tellsAllApart 3 (some .boolean) 3 0 0 [.ref k, .int (nI D)] n kd I J P (am_is (some (.int (bz (allB nm c H D)))) n kd I J P) := by
  refine ct_of 1 (by decide +kernel) (Nat.le_of_ble_eq_true rfl) rfl ?_
  refine r_iconst (v := nI 0) dX3_tellsAllApart_0 (by decide) ?_
  refine r_istore_n dX3_tellsAllApart_1 (by decide) ?_
  exact tal_loop k c H nm D hS c 0 (by omega)

theorem dX3_doorsAtOnce_0 : decode cX3_doorsAtOnce 0 = .ok (.iconst 0, 1) := by decide +kernel
theorem dX3_doorsAtOnce_1 : decode cX3_doorsAtOnce 1 = .ok (.istore_n 1, 1) := by decide +kernel
theorem dX3_doorsAtOnce_2 : decode cX3_doorsAtOnce 2 = .ok (.iload_n 1, 1) := by decide +kernel
theorem dX3_doorsAtOnce_3 : decode cX3_doorsAtOnce 3 = .ok (.aload_n 0, 1) := by decide +kernel
theorem dX3_doorsAtOnce_4 : decode cX3_doorsAtOnce 4 = .ok (.getfield 9, 3) := by decide +kernel
theorem dX3_doorsAtOnce_7 : decode cX3_doorsAtOnce 7 = .ok (.if_icmp .gt 45, 3) := by decide +kernel
theorem dX3_doorsAtOnce_10 : decode cX3_doorsAtOnce 10 = .ok (.iconst 0, 1) := by decide +kernel
theorem dX3_doorsAtOnce_11 : decode cX3_doorsAtOnce 11 = .ok (.istore_n 2, 1) := by decide +kernel
theorem dX3_doorsAtOnce_12 : decode cX3_doorsAtOnce 12 = .ok (.iload_n 2, 1) := by decide +kernel
theorem dX3_doorsAtOnce_13 : decode cX3_doorsAtOnce 13 = .ok (.iconst 1, 1) := by decide +kernel
theorem dX3_doorsAtOnce_14 : decode cX3_doorsAtOnce 14 = .ok (.aload_n 0, 1) := by decide +kernel
theorem dX3_doorsAtOnce_15 : decode cX3_doorsAtOnce 15 = .ok (.getfield 9, 3) := by decide +kernel
theorem dX3_doorsAtOnce_18 : decode cX3_doorsAtOnce 18 = .ok (.ishl, 1) := by decide +kernel
theorem dX3_doorsAtOnce_19 : decode cX3_doorsAtOnce 19 = .ok (.if_icmp .ge 27, 3) := by decide +kernel
theorem dX3_doorsAtOnce_22 : decode cX3_doorsAtOnce 22 = .ok (.iload_n 2, 1) := by decide +kernel
theorem dX3_doorsAtOnce_23 : decode cX3_doorsAtOnce 23 = .ok (.invokestatic 71, 3) := by decide +kernel
theorem dX3_doorsAtOnce_26 : decode cX3_doorsAtOnce 26 = .ok (.iload_n 1, 1) := by decide +kernel
theorem dX3_doorsAtOnce_27 : decode cX3_doorsAtOnce 27 = .ok (.if_icmp .ne 13, 3) := by decide +kernel
theorem dX3_doorsAtOnce_30 : decode cX3_doorsAtOnce 30 = .ok (.aload_n 0, 1) := by decide +kernel
theorem dX3_doorsAtOnce_31 : decode cX3_doorsAtOnce 31 = .ok (.iload_n 2, 1) := by decide +kernel
theorem dX3_doorsAtOnce_32 : decode cX3_doorsAtOnce 32 = .ok (.invokevirtual 77, 3) := by decide +kernel
theorem dX3_doorsAtOnce_35 : decode cX3_doorsAtOnce 35 = .ok (.ifCond .eq 5, 3) := by decide +kernel
theorem dX3_doorsAtOnce_38 : decode cX3_doorsAtOnce 38 = .ok (.iload_n 2, 1) := by decide +kernel
theorem dX3_doorsAtOnce_39 : decode cX3_doorsAtOnce 39 = .ok (.ireturn, 1) := by decide +kernel
theorem dX3_doorsAtOnce_40 : decode cX3_doorsAtOnce 40 = .ok (.iinc 2 1, 3) := by decide +kernel
theorem dX3_doorsAtOnce_43 : decode cX3_doorsAtOnce 43 = .ok (.goto (-31), 3) := by decide +kernel
theorem dX3_doorsAtOnce_46 : decode cX3_doorsAtOnce 46 = .ok (.iinc 1 1, 3) := by decide +kernel
theorem dX3_doorsAtOnce_49 : decode cX3_doorsAtOnce 49 = .ok (.goto (-47), 3) := by decide +kernel
theorem dX3_doorsAtOnce_52 : decode cX3_doorsAtOnce 52 = .ok (.iconst (-1), 1) := by decide +kernel
theorem dX3_doorsAtOnce_53 : decode cX3_doorsAtOnce 53 = .ok (.ireturn, 1) := by decide +kernel

set_option maxHeartbeats 4000000 in
set_option maxRecDepth 100000 in
theorem c_dao_i (k c H : Nat) (nm : Nat → Nat → Nat) (R : Int32) {n : Nat} {kd : mK} {I : mI} {J : mJ} {P : mP} (hS : lkM kd I J P k c H nm) (z : Nat) (hz : z ≤ 8) : ∀ (cnt s : Nat), s + cnt = 2 ^ H → (∀ x, smI (fun D => allB nm c H D) z cnt s = some x → R = nI x) → (smI (fun D => allB nm c H D) z cnt s = none → Ru yX3_doorsAtOnce.cls cX3_doorsAtOnce 3 (some .int) yX3_doorsAtOnce.name 4 (am_is (some (.int R)) n kd I J P) 0 0 46 [some (.ref k), some (.int (nI z)), some (.int (nI (2 ^ H)))] [] n kd I J P) → Ru yX3_doorsAtOnce.cls cX3_doorsAtOnce 3 (some .int) yX3_doorsAtOnce.name 4 (am_is (some (.int R)) n kd I J P) 0 0 12 [some (.ref k), some (.int (nI z)), some (.int (nI s))] [] n kd I J P
  | 0, s, hh, h1, h2 => by
    obtain ⟨hG, e0, e1, hJ, hc, hH⟩ := id hS
    have p8 := pw8 hH
    have eh : s = 2 ^ H := by omega
    subst eh
    refine r_iload_n dX3_doorsAtOnce_12 rfl ?_
    refine r_iconst (v := nI 1) dX3_doorsAtOnce_13 (by decide) ?_
    refine r_aload_n dX3_doorsAtOnce_14 rfl ?_
    refine r_getI dX3_doorsAtOnce_15 fl_X3_9 rfl hG.1 ?_
    rw [e0]
    refine r_ishl dX3_doorsAtOnce_18 ?_
    rw [sh1_8 H hH]
    refine r_icmp_ge (tgt := 46) dX3_doorsAtOnce_19 (by decide) (fun _ => ?_) (fun hz => absurd (show _ from (by rw [nI_leI (by omega) (by omega)]; omega)) hz)
    exact h2 rfl
  | cnt + 1, s, hh, h1, h2 => by
    obtain ⟨hG, e0, e1, hJ, hc, hH⟩ := id hS
    have p8 := pw8 hH
    have hb8 := pc8_le s (by omega)
    unfold smI at h1 h2
    by_cases q1 : pc8 s = z
    · by_cases q2 : allB nm c H s = true
      · rw [if_pos (by rw [decide_eq_true q1, q2]; rfl)] at h1
        rw [h1 s rfl]
        refine r_iload_n dX3_doorsAtOnce_12 rfl ?_
        refine r_iconst (v := nI 1) dX3_doorsAtOnce_13 (by decide) ?_
        refine r_aload_n dX3_doorsAtOnce_14 rfl ?_
        refine r_getI dX3_doorsAtOnce_15 fl_X3_9 rfl hG.1 ?_
        rw [e0]
        refine r_ishl dX3_doorsAtOnce_18 ?_
        rw [sh1_8 H hH]
        refine r_icmp_ge (tgt := 46) dX3_doorsAtOnce_19 (by decide) (fun hz => absurd hz (show ¬ _ from (by rw [nI_leI (by omega) (by omega)]; omega))) (fun _ => ?_)
        refine r_iload_n dX3_doorsAtOnce_22 rfl ?_
        refine r_statE (c_J6_bitCount_0f7a4 (nI s)) lk_X3_71 mc_J6_bitCount_0f7a4 dX3_doorsAtOnce_23 (by decide) rfl rfl (Nat.le_of_ble_eq_true rfl) ?_
        rw [bc_pc s (by omega)]
        refine r_iload_n dX3_doorsAtOnce_26 rfl ?_
        refine r_icmp_ne (tgt := 40) dX3_doorsAtOnce_27 (by decide) (fun hz => absurd (show _ from (by rw [q1])) hz) (fun _ => ?_)
        refine r_aload_n dX3_doorsAtOnce_30 rfl ?_
        refine r_iload_n dX3_doorsAtOnce_31 rfl ?_
        refine r_virtE (c_tal k c H nm s hS) lk_X3_77 mc_X3_tellsAllApart dX3_doorsAtOnce_32 hG.1 (by decide) rfl rfl (Nat.le_of_ble_eq_true rfl) ?_
        rw [q2]
        refine r_if_eq (tgt := 40) dX3_doorsAtOnce_35 (by decide) (fun hz => absurd hz (show ¬ _ from (by decide))) (fun _ => ?_)
        refine r_iload_n dX3_doorsAtOnce_38 rfl ?_
        refine r_iret rfl dX3_doorsAtOnce_39 ?_
        exact am_is.mk
      · rw [if_neg (by rw [Bool.and_eq_true]; exact fun x => q2 x.2)] at h1 h2
        have q2 : allB nm c H s = false := by cases hx : allB nm c H s; rfl; exact absurd hx q2
        refine r_iload_n dX3_doorsAtOnce_12 rfl ?_
        refine r_iconst (v := nI 1) dX3_doorsAtOnce_13 (by decide) ?_
        refine r_aload_n dX3_doorsAtOnce_14 rfl ?_
        refine r_getI dX3_doorsAtOnce_15 fl_X3_9 rfl hG.1 ?_
        rw [e0]
        refine r_ishl dX3_doorsAtOnce_18 ?_
        rw [sh1_8 H hH]
        refine r_icmp_ge (tgt := 46) dX3_doorsAtOnce_19 (by decide) (fun hz => absurd hz (show ¬ _ from (by rw [nI_leI (by omega) (by omega)]; omega))) (fun _ => ?_)
        refine r_iload_n dX3_doorsAtOnce_22 rfl ?_
        refine r_statE (c_J6_bitCount_0f7a4 (nI s)) lk_X3_71 mc_J6_bitCount_0f7a4 dX3_doorsAtOnce_23 (by decide) rfl rfl (Nat.le_of_ble_eq_true rfl) ?_
        rw [bc_pc s (by omega)]
        refine r_iload_n dX3_doorsAtOnce_26 rfl ?_
        refine r_icmp_ne (tgt := 40) dX3_doorsAtOnce_27 (by decide) (fun hz => absurd (show _ from (by rw [q1])) hz) (fun _ => ?_)
        refine r_aload_n dX3_doorsAtOnce_30 rfl ?_
        refine r_iload_n dX3_doorsAtOnce_31 rfl ?_
        refine r_virtE (c_tal k c H nm s hS) lk_X3_77 mc_X3_tellsAllApart dX3_doorsAtOnce_32 hG.1 (by decide) rfl rfl (Nat.le_of_ble_eq_true rfl) ?_
        rw [q2]
        refine r_if_eq (tgt := 40) dX3_doorsAtOnce_35 (by decide) (fun _ => ?_) (fun hz => absurd (show _ from (by decide)) hz)
        refine r_iinc (v := nI (s + 1)) dX3_doorsAtOnce_40 rfl (nI_inc s) ?_
        refine r_goto (tgt := 12) dX3_doorsAtOnce_43 (by decide) ?_
        exact c_dao_i k c H nm R hS z hz cnt (s + 1) (by omega) h1 h2
    · rw [if_neg (by rw [Bool.and_eq_true, decide_eq_true_iff]; exact fun x => q1 x.1)] at h1 h2
      refine r_iload_n dX3_doorsAtOnce_12 rfl ?_
      refine r_iconst (v := nI 1) dX3_doorsAtOnce_13 (by decide) ?_
      refine r_aload_n dX3_doorsAtOnce_14 rfl ?_
      refine r_getI dX3_doorsAtOnce_15 fl_X3_9 rfl hG.1 ?_
      rw [e0]
      refine r_ishl dX3_doorsAtOnce_18 ?_
      rw [sh1_8 H hH]
      refine r_icmp_ge (tgt := 46) dX3_doorsAtOnce_19 (by decide) (fun hz => absurd hz (show ¬ _ from (by rw [nI_leI (by omega) (by omega)]; omega))) (fun _ => ?_)
      refine r_iload_n dX3_doorsAtOnce_22 rfl ?_
      refine r_statE (c_J6_bitCount_0f7a4 (nI s)) lk_X3_71 mc_J6_bitCount_0f7a4 dX3_doorsAtOnce_23 (by decide) rfl rfl (Nat.le_of_ble_eq_true rfl) ?_
      rw [bc_pc s (by omega)]
      refine r_iload_n dX3_doorsAtOnce_26 rfl ?_
      refine r_icmp_ne (tgt := 40) dX3_doorsAtOnce_27 (by decide) (fun _ => ?_) (fun hz => absurd hz (show ¬ _ from (fun x => q1 ((nI_eq (by omega) (by omega)).mp x))))
      refine r_iinc (v := nI (s + 1)) dX3_doorsAtOnce_40 rfl (nI_inc s) ?_
      refine r_goto (tgt := 12) dX3_doorsAtOnce_43 (by decide) ?_
      exact c_dao_i k c H nm R hS z hz cnt (s + 1) (by omega) h1 h2

set_option maxHeartbeats 4000000 in
set_option maxRecDepth 100000 in
theorem c_dao_o (k c H : Nat) (nm : Nat → Nat → Nat) (R : Int32) {n : Nat} {kd : mK} {I : mI} {J : mJ} {P : mP} (hS : lkM kd I J P k c H nm) : ∀ (cnt z : Nat) (zs : Option Value), z + cnt = H + 1 → R = oI (smC (fun D => allB nm c H D) (2 ^ H) cnt z) → Ru yX3_doorsAtOnce.cls cX3_doorsAtOnce 3 (some .int) yX3_doorsAtOnce.name 4 (am_is (some (.int R)) n kd I J P) 0 0 2 [some (.ref k), some (.int (nI z)), zs] [] n kd I J P
  | 0, z, zs, hh, h1 => by
    obtain ⟨hG, e0, e1, hJ, hc, hH⟩ := id hS
    have eh : z = H + 1 := by omega
    subst eh
    rw [h1]
    refine r_iload_n dX3_doorsAtOnce_2 rfl ?_
    refine r_aload_n dX3_doorsAtOnce_3 rfl ?_
    refine r_getI dX3_doorsAtOnce_4 fl_X3_9 rfl hG.1 ?_
    rw [e0]
    refine r_icmp_gt (tgt := 52) dX3_doorsAtOnce_7 (by decide) (fun _ => ?_) (fun hz => absurd (show _ from (by rw [nI_ltI (by omega) (by omega)]; omega)) hz)
    refine r_iconst (v := (-1)) dX3_doorsAtOnce_52 (by decide) ?_
    refine r_iret rfl dX3_doorsAtOnce_53 ?_
    exact am_is.mk
  | cnt + 1, z, zs, hh, h1 => by
    obtain ⟨hG, e0, e1, hJ, hc, hH⟩ := id hS
    unfold smC at h1
    refine r_iload_n dX3_doorsAtOnce_2 rfl ?_
    refine r_aload_n dX3_doorsAtOnce_3 rfl ?_
    refine r_getI dX3_doorsAtOnce_4 fl_X3_9 rfl hG.1 ?_
    rw [e0]
    refine r_icmp_gt (tgt := 52) dX3_doorsAtOnce_7 (by decide) (fun hz => absurd hz (show ¬ _ from (by rw [nI_ltI (by omega) (by omega)]; omega))) (fun _ => ?_)
    refine r_iconst (v := nI 0) dX3_doorsAtOnce_10 (by decide) ?_
    refine r_istore_n dX3_doorsAtOnce_11 (by decide) ?_
    refine c_dao_i k c H nm R hS z (by omega) (2 ^ H) 0 (by omega) (fun x hx => by rw [hx] at h1; exact h1) (fun hx => ?_)
    rw [hx] at h1
    refine r_iinc (v := nI (z + 1)) dX3_doorsAtOnce_46 rfl (nI_inc z) ?_
    refine r_goto (tgt := 2) dX3_doorsAtOnce_49 (by decide) ?_
    exact c_dao_o k c H nm R hS cnt (z + 1) _ (by omega) h1

set_option maxHeartbeats 4000000 in
set_option maxRecDepth 100000 in
theorem c_dao (k c H : Nat) (nm : Nat → Nat → Nat) {n : Nat} {kd : mK} {I : mI} {J : mJ} {P : mP} (hS : lkM kd I J P k c H nm) : Ct yX3_doorsAtOnce cX3_doorsAtOnce 3 (some .int) 4 0 0 [.ref k] n kd I J P (am_is (some (.int (oI (smC (fun D => allB nm c H D) (2 ^ H) (H + 1) 0)))) n kd I J P) := by
  refine ct_of 2 (by decide +kernel) (Nat.le_of_ble_eq_true rfl) rfl ?_
  refine r_iconst (v := nI 0) dX3_doorsAtOnce_0 (by decide) ?_
  refine r_istore_n dX3_doorsAtOnce_1 (by decide) ?_
  exact c_dao_o k c H nm _ hS (H + 1) 0 none (by omega) rfl

theorem dX3_hintsFor_0 : decode cX3_hintsFor 0 = .ok (.iconst 0, 1) := by decide +kernel
theorem dX3_hintsFor_1 : decode cX3_hintsFor 1 = .ok (.istore_n 2, 1) := by decide +kernel
theorem dX3_hintsFor_2 : decode cX3_hintsFor 2 = .ok (.iload_n 2, 1) := by decide +kernel
theorem dX3_hintsFor_3 : decode cX3_hintsFor 3 = .ok (.aload_n 0, 1) := by decide +kernel
theorem dX3_hintsFor_4 : decode cX3_hintsFor 4 = .ok (.getfield 9, 3) := by decide +kernel
theorem dX3_hintsFor_7 : decode cX3_hintsFor 7 = .ok (.if_icmp .gt 46, 3) := by decide +kernel
theorem dX3_hintsFor_10 : decode cX3_hintsFor 10 = .ok (.iconst 0, 1) := by decide +kernel
theorem dX3_hintsFor_11 : decode cX3_hintsFor 11 = .ok (.istore_n 3, 1) := by decide +kernel
theorem dX3_hintsFor_12 : decode cX3_hintsFor 12 = .ok (.iload_n 3, 1) := by decide +kernel
theorem dX3_hintsFor_13 : decode cX3_hintsFor 13 = .ok (.iconst 1, 1) := by decide +kernel
theorem dX3_hintsFor_14 : decode cX3_hintsFor 14 = .ok (.aload_n 0, 1) := by decide +kernel
theorem dX3_hintsFor_15 : decode cX3_hintsFor 15 = .ok (.getfield 9, 3) := by decide +kernel
theorem dX3_hintsFor_18 : decode cX3_hintsFor 18 = .ok (.ishl, 1) := by decide +kernel
theorem dX3_hintsFor_19 : decode cX3_hintsFor 19 = .ok (.if_icmp .ge 28, 3) := by decide +kernel
theorem dX3_hintsFor_22 : decode cX3_hintsFor 22 = .ok (.iload_n 3, 1) := by decide +kernel
theorem dX3_hintsFor_23 : decode cX3_hintsFor 23 = .ok (.invokestatic 71, 3) := by decide +kernel
theorem dX3_hintsFor_26 : decode cX3_hintsFor 26 = .ok (.iload_n 2, 1) := by decide +kernel
theorem dX3_hintsFor_27 : decode cX3_hintsFor 27 = .ok (.if_icmp .ne 14, 3) := by decide +kernel
theorem dX3_hintsFor_30 : decode cX3_hintsFor 30 = .ok (.aload_n 0, 1) := by decide +kernel
theorem dX3_hintsFor_31 : decode cX3_hintsFor 31 = .ok (.iload_n 3, 1) := by decide +kernel
theorem dX3_hintsFor_32 : decode cX3_hintsFor 32 = .ok (.iload_n 1, 1) := by decide +kernel
theorem dX3_hintsFor_33 : decode cX3_hintsFor 33 = .ok (.invokevirtual 67, 3) := by decide +kernel
theorem dX3_hintsFor_36 : decode cX3_hintsFor 36 = .ok (.ifCond .eq 5, 3) := by decide +kernel
theorem dX3_hintsFor_39 : decode cX3_hintsFor 39 = .ok (.iload_n 3, 1) := by decide +kernel
theorem dX3_hintsFor_40 : decode cX3_hintsFor 40 = .ok (.ireturn, 1) := by decide +kernel
theorem dX3_hintsFor_41 : decode cX3_hintsFor 41 = .ok (.iinc 3 1, 3) := by decide +kernel
theorem dX3_hintsFor_44 : decode cX3_hintsFor 44 = .ok (.goto (-32), 3) := by decide +kernel
theorem dX3_hintsFor_47 : decode cX3_hintsFor 47 = .ok (.iinc 2 1, 3) := by decide +kernel
theorem dX3_hintsFor_50 : decode cX3_hintsFor 50 = .ok (.goto (-48), 3) := by decide +kernel
theorem dX3_hintsFor_53 : decode cX3_hintsFor 53 = .ok (.iconst (-1), 1) := by decide +kernel
theorem dX3_hintsFor_54 : decode cX3_hintsFor 54 = .ok (.ireturn, 1) := by decide +kernel

set_option maxHeartbeats 4000000 in
set_option maxRecDepth 100000 in
theorem c_hif_i (k c H : Nat) (nm : Nat → Nat → Nat) (i : Nat) (R : Int32) {n : Nat} {kd : mK} {I : mI} {J : mJ} {P : mP} (hS : lkM kd I J P k c H nm) (hi : i < c) (z : Nat) (hz : z ≤ 8) : ∀ (cnt s : Nat), s + cnt = 2 ^ H → (∀ x, smI (fun D => apB nm c H D i) z cnt s = some x → R = nI x) → (smI (fun D => apB nm c H D i) z cnt s = none → Ru yX3_hintsFor.cls cX3_hintsFor 4 (some .int) yX3_hintsFor.name 3 (am_is (some (.int R)) n kd I J P) 0 0 47 [some (.ref k), some (.int (nI i)), some (.int (nI z)), some (.int (nI (2 ^ H)))] [] n kd I J P) → Ru yX3_hintsFor.cls cX3_hintsFor 4 (some .int) yX3_hintsFor.name 3 (am_is (some (.int R)) n kd I J P) 0 0 12 [some (.ref k), some (.int (nI i)), some (.int (nI z)), some (.int (nI s))] [] n kd I J P
  | 0, s, hh, h1, h2 => by
    obtain ⟨hG, e0, e1, hJ, hc, hH⟩ := id hS
    have p8 := pw8 hH
    have eh : s = 2 ^ H := by omega
    subst eh
    refine r_iload_n dX3_hintsFor_12 rfl ?_
    refine r_iconst (v := nI 1) dX3_hintsFor_13 (by decide) ?_
    refine r_aload_n dX3_hintsFor_14 rfl ?_
    refine r_getI dX3_hintsFor_15 fl_X3_9 rfl hG.1 ?_
    rw [e0]
    refine r_ishl dX3_hintsFor_18 ?_
    rw [sh1_8 H hH]
    refine r_icmp_ge (tgt := 47) dX3_hintsFor_19 (by decide) (fun _ => ?_) (fun hz => absurd (show _ from (by rw [nI_leI (by omega) (by omega)]; omega)) hz)
    exact h2 rfl
  | cnt + 1, s, hh, h1, h2 => by
    obtain ⟨hG, e0, e1, hJ, hc, hH⟩ := id hS
    have p8 := pw8 hH
    have hb8 := pc8_le s (by omega)
    unfold smI at h1 h2
    by_cases q1 : pc8 s = z
    · by_cases q2 : apB nm c H s i = true
      · rw [if_pos (by rw [decide_eq_true q1, q2]; rfl)] at h1
        rw [h1 s rfl]
        refine r_iload_n dX3_hintsFor_12 rfl ?_
        refine r_iconst (v := nI 1) dX3_hintsFor_13 (by decide) ?_
        refine r_aload_n dX3_hintsFor_14 rfl ?_
        refine r_getI dX3_hintsFor_15 fl_X3_9 rfl hG.1 ?_
        rw [e0]
        refine r_ishl dX3_hintsFor_18 ?_
        rw [sh1_8 H hH]
        refine r_icmp_ge (tgt := 47) dX3_hintsFor_19 (by decide) (fun hz => absurd hz (show ¬ _ from (by rw [nI_leI (by omega) (by omega)]; omega))) (fun _ => ?_)
        refine r_iload_n dX3_hintsFor_22 rfl ?_
        refine r_statE (c_J6_bitCount_0f7a4 (nI s)) lk_X3_71 mc_J6_bitCount_0f7a4 dX3_hintsFor_23 (by decide) rfl rfl (Nat.le_of_ble_eq_true rfl) ?_
        rw [bc_pc s (by omega)]
        refine r_iload_n dX3_hintsFor_26 rfl ?_
        refine r_icmp_ne (tgt := 41) dX3_hintsFor_27 (by decide) (fun hz => absurd (show _ from (by rw [q1])) hz) (fun _ => ?_)
        refine r_aload_n dX3_hintsFor_30 rfl ?_
        refine r_iload_n dX3_hintsFor_31 rfl ?_
        refine r_iload_n dX3_hintsFor_32 rfl ?_
        refine r_virtE (c_ta k c H nm s i hS hi) lk_X3_67 mc_X3_tellsApart dX3_hintsFor_33 hG.1 (by decide) rfl rfl (Nat.le_of_ble_eq_true rfl) ?_
        rw [q2]
        refine r_if_eq (tgt := 41) dX3_hintsFor_36 (by decide) (fun hz => absurd hz (show ¬ _ from (by decide))) (fun _ => ?_)
        refine r_iload_n dX3_hintsFor_39 rfl ?_
        refine r_iret rfl dX3_hintsFor_40 ?_
        exact am_is.mk
      · rw [if_neg (by rw [Bool.and_eq_true]; exact fun x => q2 x.2)] at h1 h2
        have q2 : apB nm c H s i = false := by cases hx : apB nm c H s i; rfl; exact absurd hx q2
        refine r_iload_n dX3_hintsFor_12 rfl ?_
        refine r_iconst (v := nI 1) dX3_hintsFor_13 (by decide) ?_
        refine r_aload_n dX3_hintsFor_14 rfl ?_
        refine r_getI dX3_hintsFor_15 fl_X3_9 rfl hG.1 ?_
        rw [e0]
        refine r_ishl dX3_hintsFor_18 ?_
        rw [sh1_8 H hH]
        refine r_icmp_ge (tgt := 47) dX3_hintsFor_19 (by decide) (fun hz => absurd hz (show ¬ _ from (by rw [nI_leI (by omega) (by omega)]; omega))) (fun _ => ?_)
        refine r_iload_n dX3_hintsFor_22 rfl ?_
        refine r_statE (c_J6_bitCount_0f7a4 (nI s)) lk_X3_71 mc_J6_bitCount_0f7a4 dX3_hintsFor_23 (by decide) rfl rfl (Nat.le_of_ble_eq_true rfl) ?_
        rw [bc_pc s (by omega)]
        refine r_iload_n dX3_hintsFor_26 rfl ?_
        refine r_icmp_ne (tgt := 41) dX3_hintsFor_27 (by decide) (fun hz => absurd (show _ from (by rw [q1])) hz) (fun _ => ?_)
        refine r_aload_n dX3_hintsFor_30 rfl ?_
        refine r_iload_n dX3_hintsFor_31 rfl ?_
        refine r_iload_n dX3_hintsFor_32 rfl ?_
        refine r_virtE (c_ta k c H nm s i hS hi) lk_X3_67 mc_X3_tellsApart dX3_hintsFor_33 hG.1 (by decide) rfl rfl (Nat.le_of_ble_eq_true rfl) ?_
        rw [q2]
        refine r_if_eq (tgt := 41) dX3_hintsFor_36 (by decide) (fun _ => ?_) (fun hz => absurd (show _ from (by decide)) hz)
        refine r_iinc (v := nI (s + 1)) dX3_hintsFor_41 rfl (nI_inc s) ?_
        refine r_goto (tgt := 12) dX3_hintsFor_44 (by decide) ?_
        exact c_hif_i k c H nm i R hS hi z hz cnt (s + 1) (by omega) h1 h2
    · rw [if_neg (by rw [Bool.and_eq_true, decide_eq_true_iff]; exact fun x => q1 x.1)] at h1 h2
      refine r_iload_n dX3_hintsFor_12 rfl ?_
      refine r_iconst (v := nI 1) dX3_hintsFor_13 (by decide) ?_
      refine r_aload_n dX3_hintsFor_14 rfl ?_
      refine r_getI dX3_hintsFor_15 fl_X3_9 rfl hG.1 ?_
      rw [e0]
      refine r_ishl dX3_hintsFor_18 ?_
      rw [sh1_8 H hH]
      refine r_icmp_ge (tgt := 47) dX3_hintsFor_19 (by decide) (fun hz => absurd hz (show ¬ _ from (by rw [nI_leI (by omega) (by omega)]; omega))) (fun _ => ?_)
      refine r_iload_n dX3_hintsFor_22 rfl ?_
      refine r_statE (c_J6_bitCount_0f7a4 (nI s)) lk_X3_71 mc_J6_bitCount_0f7a4 dX3_hintsFor_23 (by decide) rfl rfl (Nat.le_of_ble_eq_true rfl) ?_
      rw [bc_pc s (by omega)]
      refine r_iload_n dX3_hintsFor_26 rfl ?_
      refine r_icmp_ne (tgt := 41) dX3_hintsFor_27 (by decide) (fun _ => ?_) (fun hz => absurd hz (show ¬ _ from (fun x => q1 ((nI_eq (by omega) (by omega)).mp x))))
      refine r_iinc (v := nI (s + 1)) dX3_hintsFor_41 rfl (nI_inc s) ?_
      refine r_goto (tgt := 12) dX3_hintsFor_44 (by decide) ?_
      exact c_hif_i k c H nm i R hS hi z hz cnt (s + 1) (by omega) h1 h2

set_option maxHeartbeats 4000000 in
set_option maxRecDepth 100000 in
theorem c_hif_o (k c H : Nat) (nm : Nat → Nat → Nat) (i : Nat) (R : Int32) {n : Nat} {kd : mK} {I : mI} {J : mJ} {P : mP} (hS : lkM kd I J P k c H nm) (hi : i < c) : ∀ (cnt z : Nat) (zs : Option Value), z + cnt = H + 1 → R = oI (smC (fun D => apB nm c H D i) (2 ^ H) cnt z) → Ru yX3_hintsFor.cls cX3_hintsFor 4 (some .int) yX3_hintsFor.name 3 (am_is (some (.int R)) n kd I J P) 0 0 2 [some (.ref k), some (.int (nI i)), some (.int (nI z)), zs] [] n kd I J P
  | 0, z, zs, hh, h1 => by
    obtain ⟨hG, e0, e1, hJ, hc, hH⟩ := id hS
    have eh : z = H + 1 := by omega
    subst eh
    rw [h1]
    refine r_iload_n dX3_hintsFor_2 rfl ?_
    refine r_aload_n dX3_hintsFor_3 rfl ?_
    refine r_getI dX3_hintsFor_4 fl_X3_9 rfl hG.1 ?_
    rw [e0]
    refine r_icmp_gt (tgt := 53) dX3_hintsFor_7 (by decide) (fun _ => ?_) (fun hz => absurd (show _ from (by rw [nI_ltI (by omega) (by omega)]; omega)) hz)
    refine r_iconst (v := (-1)) dX3_hintsFor_53 (by decide) ?_
    refine r_iret rfl dX3_hintsFor_54 ?_
    exact am_is.mk
  | cnt + 1, z, zs, hh, h1 => by
    obtain ⟨hG, e0, e1, hJ, hc, hH⟩ := id hS
    unfold smC at h1
    refine r_iload_n dX3_hintsFor_2 rfl ?_
    refine r_aload_n dX3_hintsFor_3 rfl ?_
    refine r_getI dX3_hintsFor_4 fl_X3_9 rfl hG.1 ?_
    rw [e0]
    refine r_icmp_gt (tgt := 53) dX3_hintsFor_7 (by decide) (fun hz => absurd hz (show ¬ _ from (by rw [nI_ltI (by omega) (by omega)]; omega))) (fun _ => ?_)
    refine r_iconst (v := nI 0) dX3_hintsFor_10 (by decide) ?_
    refine r_istore_n dX3_hintsFor_11 (by decide) ?_
    refine c_hif_i k c H nm i R hS hi z (by omega) (2 ^ H) 0 (by omega) (fun x hx => by rw [hx] at h1; exact h1) (fun hx => ?_)
    rw [hx] at h1
    refine r_iinc (v := nI (z + 1)) dX3_hintsFor_47 rfl (nI_inc z) ?_
    refine r_goto (tgt := 2) dX3_hintsFor_50 (by decide) ?_
    exact c_hif_o k c H nm i R hS hi cnt (z + 1) _ (by omega) h1

set_option maxHeartbeats 4000000 in
set_option maxRecDepth 100000 in
theorem c_hif (k c H : Nat) (nm : Nat → Nat → Nat) (i : Nat) {n : Nat} {kd : mK} {I : mI} {J : mJ} {P : mP} (hS : lkM kd I J P k c H nm) (hi : i < c) : Ct yX3_hintsFor cX3_hintsFor 4 (some .int) 3 0 0 [.ref k, .int (nI i)] n kd I J P (am_is (some (.int (oI (smC (fun D => apB nm c H D i) (2 ^ H) (H + 1) 0)))) n kd I J P) := by
  refine ct_of 2 (by decide +kernel) (Nat.le_of_ble_eq_true rfl) rfl ?_
  refine r_iconst (v := nI 0) dX3_hintsFor_0 (by decide) ?_
  refine r_istore_n dX3_hintsFor_1 (by decide) ?_
  exact c_hif_o k c H nm i _ hS hi (H + 1) 0 none (by omega) rfl

theorem dX9_doors_0 : decode cX9_doors 0 = .ok (.aload_n 0, 1) := by decide +kernel
theorem dX9_doors_1 : decode cX9_doors 1 = .ok (.invokevirtual 218, 3) := by decide +kernel
theorem dX9_doors_4 : decode cX9_doors 4 = .ok (.ifCond .eq 13, 3) := by decide +kernel
theorem dX9_doors_7 : decode cX9_doors 7 = .ok (.aload_n 0, 1) := by decide +kernel
theorem dX9_doors_8 : decode cX9_doors 8 = .ok (.getfield 71, 3) := by decide +kernel
theorem dX9_doors_11 : decode cX9_doors 11 = .ok (.invokevirtual 229, 3) := by decide +kernel
theorem dX9_doors_14 : decode cX9_doors 14 = .ok (.goto 5, 3) := by decide +kernel
theorem dX9_doors_17 : decode cX9_doors 17 = .ok (.bipush (-2), 2) := by decide +kernel
theorem dX9_doors_19 : decode cX9_doors 19 = .ok (.ireturn, 1) := by decide +kernel

set_option maxHeartbeats 4000000 in
set_option maxRecDepth 100000 in
theorem k_doors_sp (o b s f l : Nat) {t : Nat} {T : Nat → Nat} {fp : Int32} {rr : Nat → Int32} {H M : Nat} {un : Bool} {cs : Nat → List Nat} {tx : Nat → List Int32} {e : Lf} {im : Option Lf} {wk : Option (List Nat)} {n : Nat} {kd : mK} {I : mI} {J : mJ} {P : mP} (hC : CR o b s f l n kd I J P t T fp rr H M un cs tx e im wk) (hz : okZ t T H M cs e) (hw : fwB (zN H M un cs e) = false) : Ct yX9_doors cX9_doors 1 (some .int) 10 0 0 [.ref o] n kd I J P (pK o n kd I J P (.inl (some (.int (-2)))) (CX o t T fp rr H M un cs tx e im wk)) := by
  have hC0 := hC
  have hz0 := hz
  obtain ⟨hX, hsc, hT, hSt, hLf, hIm, hWk, hQc, hPc⟩ := hC
  obtain ⟨okt, oks, okl⟩ := hz
  have hS := hX.S
  have hL := hX.L
  have hat := hX.at
  have hH8 : H ≤ 8 := oks.2.1
  have hM20 : 2 ≤ M ∧ M ≤ 20 := oks.1
  have hH : I b 0 = nI H := hSt.1.1
  have hMo : I b 1 = nI M := hSt.2.1
  obtain ⟨⟨x0, x1, x2⟩, -, ⟨-, -, hLk⟩, ⟨hQ, hA, hG, hW, hRd, hD, hPg⟩, ⟨p0, p3, p8, p10, p12, p13, p14, p15, p16, p17⟩, ⟨p4, p5, p6, p7⟩, -, -, -⟩ := id hX
  refine ct_of 0 (by decide +kernel) (Nat.le_of_ble_eq_true rfl) rfl ?_
  refine r_aload_n dX9_doors_0 rfl ?_
  refine r_virt (kc2 := 0) (ks2 := 0) (k_ready_no o b s f l hC0 hz0 hw) lk_X9_218 mc_X9_readyToLook dX9_doors_1 x0 (by decide) rfl rfl (Nat.le_of_ble_eq_true rfl) (by decide) (by decide) (fun _ _ _ _ _ _ h => nomatch h.1) ?_
  rintro v1 n1 kd1 I1 J1 P1 ⟨h00, rfl, rfl, hfr, h56, hC1⟩
  cases h00
  simp only [Option.toList, List.nil_append, List.cons_append]
  refine r_if_eq (tgt := 17) dX9_doors_4 (by decide) (fun _ => ?_) (fun hz => absurd (show _ from (by decide)) hz)
  refine r_bipush (v := -2) dX9_doors_17 (by decide) ?_
  refine r_iret rfl dX9_doors_19 ?_
  exact ⟨rfl, ⟨Nat.le_refl _, Nat.le_succ _⟩, fun q => by rw [h56]; exact q, fun a a1 a2 => ⟨rfl, (hfr a (by omega)).1, (hfr a (by omega)).2.1, (hfr a (by omega)).2.2⟩, b, s, f, l, hC1⟩

set_option maxHeartbeats 4000000 in
set_option maxRecDepth 100000 in
theorem k_doors (o b s f l : Nat) {t : Nat} {T : Nat → Nat} {fp : Int32} {rr : Nat → Int32} {H M : Nat} {un : Bool} {cs : Nat → List Nat} {tx : Nat → List Int32} {e : Lf} {im : Option Lf} {wk : Option (List Nat)} {n : Nat} {kd : mK} {I : mI} {J : mJ} {P : mP} (hC : CR o b s f l n kd I J P t T fp rr H M un cs tx e im wk) (hz : okZ t T H M cs e) (hw : fwB (zN H M un cs e) = true) : Ct yX9_doors cX9_doors 1 (some .int) 10 0 0 [.ref o] n kd I J P (pK o n kd I J P (.inl (some (.int (oI (smC (fun D => allB (nmF (fsN H M un cs e)) (fsN H M un cs e).length H D) (2 ^ H) (H + 1) 0))))) (CX o t T fp rr H M un cs tx e im wk)) := by
  have hC0 := hC
  have hz0 := hz
  obtain ⟨hX, hsc, hT, hSt, hLf, hIm, hWk, hQc, hPc⟩ := hC
  obtain ⟨okt, oks, okl⟩ := hz
  have hS := hX.S
  have hL := hX.L
  have hat := hX.at
  have hH8 : H ≤ 8 := oks.2.1
  have hM20 : 2 ≤ M ∧ M ≤ 20 := oks.1
  have hH : I b 0 = nI H := hSt.1.1
  have hMo : I b 1 = nI M := hSt.2.1
  obtain ⟨⟨x0, x1, x2⟩, -, ⟨-, -, hLk⟩, ⟨hQ, hA, hG, hW, hRd, hD, hPg⟩, ⟨p0, p3, p8, p10, p12, p13, p14, p15, p16, p17⟩, ⟨p4, p5, p6, p7⟩, -, -, -⟩ := id hX
  obtain ⟨hg, h40⟩ := fw_gd.mp hw
  refine ct_of 0 (by decide +kernel) (Nat.le_of_ble_eq_true rfl) rfl ?_
  refine r_aload_n dX9_doors_0 rfl ?_
  refine r_virt (kc2 := 0) (ks2 := 0) (k_ready o b s f l hC0 hz0 hw) lk_X9_218 mc_X9_readyToLook dX9_doors_1 x0 (by decide) rfl rfl (Nat.le_of_ble_eq_true rfl) (by decide) (by decide) (fun _ _ _ _ _ _ h => nomatch h.1) ?_
  rintro v1 n1 kd1 I1 J1 P1 ⟨h00, rfl, rfl, hfr, h56, hC1, g0, g1, g10, gJ⟩
  cases h00
  simp only [Option.toList, List.nil_append, List.cons_append]
  obtain ⟨⟨y0, y1, y2⟩, -, -, ⟨hQ1, hA1, hG1, hW1, -, -, -⟩, ⟨-, -, -, r10, r12, r13, r14, -, -, -⟩, ⟨r4, r5, r6, r7⟩, -, -, -⟩ := id hC1.1
  have hSL : lkM kd1 I1 J1 P1 (o + 56) (fsN H M un cs e).length H (nmF (fsN H M un cs e)) := ⟨hG1, g0, g1, gJ, h40, hH8⟩
  refine r_if_eq (tgt := 17) dX9_doors_4 (by decide) (fun hz => absurd hz (show ¬ _ from (by decide))) (fun _ => ?_)
  refine r_aload_n dX9_doors_7 rfl ?_
  refine r_getR dX9_doors_8 fl_X9_71 rfl (by assumption) (by assumption) ?_
  refine r_virtE (c_dao (o + 56) (fsN H M un cs e).length H (nmF (fsN H M un cs e)) hSL) lk_X9_229 mc_X3_doorsAtOnce dX9_doors_11 hG1.1 (by decide) rfl rfl (Nat.le_of_ble_eq_true rfl) ?_
  refine r_goto (tgt := 19) dX9_doors_14 (by decide) ?_
  refine r_iret rfl dX9_doors_19 ?_
  exact ⟨rfl, ⟨Nat.le_refl _, Nat.le_succ _⟩, fun q => by rw [h56]; exact q, fun a a1 a2 => ⟨rfl, (hfr a (by omega)).1, (hfr a (by omega)).2.1, (hfr a (by omega)).2.2⟩, b, s, f, l, hC1⟩

theorem dX9_hints_0 : decode cX9_hints 0 = .ok (.aload_n 0, 1) := by decide +kernel
theorem dX9_hints_1 : decode cX9_hints 1 = .ok (.invokevirtual 218, 3) := by decide +kernel
theorem dX9_hints_4 : decode cX9_hints 4 = .ok (.ifCond .ne 6, 3) := by decide +kernel
theorem dX9_hints_7 : decode cX9_hints 7 = .ok (.bipush (-2), 2) := by decide +kernel
theorem dX9_hints_9 : decode cX9_hints 9 = .ok (.ireturn, 1) := by decide +kernel
theorem dX9_hints_10 : decode cX9_hints 10 = .ok (.iload_n 1, 1) := by decide +kernel
theorem dX9_hints_11 : decode cX9_hints 11 = .ok (.ifCond .lt 14, 3) := by decide +kernel
theorem dX9_hints_14 : decode cX9_hints 14 = .ok (.iload_n 1, 1) := by decide +kernel
theorem dX9_hints_15 : decode cX9_hints 15 = .ok (.aload_n 0, 1) := by decide +kernel
theorem dX9_hints_16 : decode cX9_hints 16 = .ok (.getfield 54, 3) := by decide +kernel
theorem dX9_hints_19 : decode cX9_hints 19 = .ok (.getfield 186, 3) := by decide +kernel
theorem dX9_hints_22 : decode cX9_hints 22 = .ok (.if_icmp .lt 11, 3) := by decide +kernel
theorem dX9_hints_25 : decode cX9_hints 25 = .ok (.new 139, 3) := by decide +kernel
theorem dX9_hints_28 : decode cX9_hints 28 = .ok (.dup, 1) := by decide +kernel
theorem dX9_hints_29 : decode cX9_hints 29 = .ok (.invokespecial 141, 3) := by decide +kernel
theorem dX9_hints_32 : decode cX9_hints 32 = .ok (.athrow, 1) := by decide +kernel
theorem dX9_hints_33 : decode cX9_hints 33 = .ok (.aload_n 0, 1) := by decide +kernel
theorem dX9_hints_34 : decode cX9_hints 34 = .ok (.getfield 71, 3) := by decide +kernel
theorem dX9_hints_37 : decode cX9_hints 37 = .ok (.iload_n 1, 1) := by decide +kernel
theorem dX9_hints_38 : decode cX9_hints 38 = .ok (.invokevirtual 232, 3) := by decide +kernel
theorem dX9_hints_41 : decode cX9_hints 41 = .ok (.ireturn, 1) := by decide +kernel

set_option maxHeartbeats 4000000 in
set_option maxRecDepth 100000 in
theorem k_hints_sp (o b s f l : Nat) (y : Int32) {t : Nat} {T : Nat → Nat} {fp : Int32} {rr : Nat → Int32} {H M : Nat} {un : Bool} {cs : Nat → List Nat} {tx : Nat → List Int32} {e : Lf} {im : Option Lf} {wk : Option (List Nat)} {n : Nat} {kd : mK} {I : mI} {J : mJ} {P : mP} (hC : CR o b s f l n kd I J P t T fp rr H M un cs tx e im wk) (hz : okZ t T H M cs e) (hw : fwB (zN H M un cs e) = false) : Ct yX9_hints cX9_hints 2 (some .int) 10 1 6 [.ref o, .int y] n kd I J P (pK o n kd I J P (.inl (some (.int (-2)))) (CX o t T fp rr H M un cs tx e im wk)) := by
  have hC0 := hC
  have hz0 := hz
  obtain ⟨hX, hsc, hT, hSt, hLf, hIm, hWk, hQc, hPc⟩ := hC
  obtain ⟨okt, oks, okl⟩ := hz
  have hS := hX.S
  have hL := hX.L
  have hat := hX.at
  have hH8 : H ≤ 8 := oks.2.1
  have hM20 : 2 ≤ M ∧ M ≤ 20 := oks.1
  have hH : I b 0 = nI H := hSt.1.1
  have hMo : I b 1 = nI M := hSt.2.1
  obtain ⟨⟨x0, x1, x2⟩, -, ⟨-, -, hLk⟩, ⟨hQ, hA, hG, hW, hRd, hD, hPg⟩, ⟨p0, p3, p8, p10, p12, p13, p14, p15, p16, p17⟩, ⟨p4, p5, p6, p7⟩, -, -, -⟩ := id hX
  refine ct_of 0 (by decide +kernel) (Nat.le_of_ble_eq_true rfl) rfl ?_
  refine r_aload_n dX9_hints_0 rfl ?_
  refine r_virt (kc2 := 0) (ks2 := 0) (k_ready_no o b s f l hC0 hz0 hw) lk_X9_218 mc_X9_readyToLook dX9_hints_1 x0 (by decide) rfl rfl (Nat.le_of_ble_eq_true rfl) (by decide) (by decide) (fun _ _ _ _ _ _ h => nomatch h.1) ?_
  rintro v1 n1 kd1 I1 J1 P1 ⟨h00, rfl, rfl, hfr, h56, hC1⟩
  cases h00
  simp only [Option.toList, List.nil_append, List.cons_append]
  refine r_if_ne (tgt := 10) dX9_hints_4 (by decide) (fun hz => absurd (show _ from rfl) hz) (fun _ => ?_)
  refine r_bipush (v := -2) dX9_hints_7 (by decide) ?_
  refine r_iret rfl dX9_hints_9 ?_
  exact ⟨rfl, ⟨Nat.le_refl _, Nat.le_succ _⟩, fun q => by rw [h56]; exact q, fun a a1 a2 => ⟨rfl, (hfr a (by omega)).1, (hfr a (by omega)).2.1, (hfr a (by omega)).2.2⟩, b, s, f, l, hC1⟩

set_option maxHeartbeats 4000000 in
set_option maxRecDepth 100000 in
theorem k_hints_no (o b s f l : Nat) (y : Int32) {t : Nat} {T : Nat → Nat} {fp : Int32} {rr : Nat → Int32} {H M : Nat} {un : Bool} {cs : Nat → List Nat} {tx : Nat → List Int32} {e : Lf} {im : Option Lf} {wk : Option (List Nat)} {n : Nat} {kd : mK} {I : mI} {J : mJ} {P : mP} (hC : CR o b s f l n kd I J P t T fp rr H M un cs tx e im wk) (hz : okZ t T H M cs e) (hw : fwB (zN H M un cs e) = true) (hy : ¬ (¬ y < 0 ∧ y < nI (fsN H M un cs e).length)) : Ct yX9_hints cX9_hints 2 (some .int) 10 1 6 [.ref o, .int y] n kd I J P (pK o n kd I J P (.inr "java/util/NoSuchElementException") (CX o t T fp rr H M un cs tx e im wk)) := by
  have hC0 := hC
  have hz0 := hz
  obtain ⟨hX, hsc, hT, hSt, hLf, hIm, hWk, hQc, hPc⟩ := hC
  obtain ⟨okt, oks, okl⟩ := hz
  have hS := hX.S
  have hL := hX.L
  have hat := hX.at
  have hH8 : H ≤ 8 := oks.2.1
  have hM20 : 2 ≤ M ∧ M ≤ 20 := oks.1
  have hH : I b 0 = nI H := hSt.1.1
  have hMo : I b 1 = nI M := hSt.2.1
  obtain ⟨⟨x0, x1, x2⟩, -, ⟨-, -, hLk⟩, ⟨hQ, hA, hG, hW, hRd, hD, hPg⟩, ⟨p0, p3, p8, p10, p12, p13, p14, p15, p16, p17⟩, ⟨p4, p5, p6, p7⟩, -, -, -⟩ := id hX
  obtain ⟨hg, h40⟩ := fw_gd.mp hw
  refine ct_of 0 (by decide +kernel) (Nat.le_of_ble_eq_true rfl) rfl ?_
  by_cases c : y < 0
  · skip
    refine r_aload_n dX9_hints_0 rfl ?_
    refine r_virt (kc2 := 1) (ks2 := 6) (k_ready o b s f l hC0 hz0 hw) lk_X9_218 mc_X9_readyToLook dX9_hints_1 x0 (by decide) rfl rfl (Nat.le_of_ble_eq_true rfl) (by decide) (by decide) (fun _ _ _ _ _ _ h => nomatch h.1) ?_
    rintro v1 n1 kd1 I1 J1 P1 ⟨h00, rfl, rfl, hfr, h56, hC1, g0, g1, g10, gJ⟩
    cases h00
    simp only [Option.toList, List.nil_append, List.cons_append]
    obtain ⟨⟨y0, y1, y2⟩, -, -, ⟨hQ1, hA1, hG1, hW1, -, -, -⟩, ⟨-, -, -, r10, r12, r13, r14, -, -, -⟩, ⟨r4, r5, r6, r7⟩, -, -, -⟩ := id hC1.1
    have hSL : lkM kd1 I1 J1 P1 (o + 56) (fsN H M un cs e).length H (nmF (fsN H M un cs e)) := ⟨hG1, g0, g1, gJ, h40, hH8⟩
    refine r_if_ne (tgt := 10) dX9_hints_4 (by decide) (fun _ => ?_) (fun hz => absurd hz (show ¬ _ from (by decide)))
    refine r_iload_n dX9_hints_10 rfl ?_
    refine r_if_lt (tgt := 25) dX9_hints_11 (by decide) (fun _ => ?_) (fun hz => absurd (show _ from c) hz)
    refine r_throw (cls := "java/util/NoSuchElementException") (names := ["java/lang/RuntimeException", "java/lang/Exception"]) dX9_hints_25 dX9_hints_28 dX9_hints_29 dX9_hints_32 (by decide +kernel) (by decide +kernel) cl_X9_139 xi_NoSuchElementException xa_nse xb_nse (by decide) (Nat.le_of_ble_eq_true rfl) (by omega) (by omega) ?_
    exact ⟨rfl, ⟨Nat.le_refl _, Nat.le_succ _⟩, fun q => by rw [h56]; exact q, fun a a1 a2 => ⟨rfl, (hfr a (by omega)).1, (hfr a (by omega)).2.1, (hfr a (by omega)).2.2⟩, b, s, f, l, hC1⟩
  · have h2 : ¬ y < nI (fsN H M un cs e).length := fun q => hy ⟨c, q⟩
    refine r_aload_n dX9_hints_0 rfl ?_
    refine r_virt (kc2 := 1) (ks2 := 6) (k_ready o b s f l hC0 hz0 hw) lk_X9_218 mc_X9_readyToLook dX9_hints_1 x0 (by decide) rfl rfl (Nat.le_of_ble_eq_true rfl) (by decide) (by decide) (fun _ _ _ _ _ _ h => nomatch h.1) ?_
    rintro v1 n1 kd1 I1 J1 P1 ⟨h00, rfl, rfl, hfr, h56, hC1, g0, g1, g10, gJ⟩
    cases h00
    simp only [Option.toList, List.nil_append, List.cons_append]
    obtain ⟨⟨y0, y1, y2⟩, -, -, ⟨hQ1, hA1, hG1, hW1, -, -, -⟩, ⟨-, -, -, r10, r12, r13, r14, -, -, -⟩, ⟨r4, r5, r6, r7⟩, -, -, -⟩ := id hC1.1
    have hSL : lkM kd1 I1 J1 P1 (o + 56) (fsN H M un cs e).length H (nmF (fsN H M un cs e)) := ⟨hG1, g0, g1, gJ, h40, hH8⟩
    refine r_if_ne (tgt := 10) dX9_hints_4 (by decide) (fun _ => ?_) (fun hz => absurd hz (show ¬ _ from (by decide)))
    refine r_iload_n dX9_hints_10 rfl ?_
    refine r_if_lt (tgt := 25) dX9_hints_11 (by decide) (fun hz => absurd hz (show ¬ _ from c)) (fun _ => ?_)
    refine r_iload_n dX9_hints_14 rfl ?_
    refine r_aload_n dX9_hints_15 rfl ?_
    refine r_getR dX9_hints_16 fl_X9_54 rfl (by assumption) (by assumption) ?_
    refine r_getI dX9_hints_19 fl_X9_186 rfl hQ1.1 ?_
    rw [g10]
    refine r_icmp_lt (tgt := 33) dX9_hints_22 (by decide) (fun hz => absurd hz (show ¬ _ from h2)) (fun _ => ?_)
    refine r_throw (cls := "java/util/NoSuchElementException") (names := ["java/lang/RuntimeException", "java/lang/Exception"]) dX9_hints_25 dX9_hints_28 dX9_hints_29 dX9_hints_32 (by decide +kernel) (by decide +kernel) cl_X9_139 xi_NoSuchElementException xa_nse xb_nse (by decide) (Nat.le_of_ble_eq_true rfl) (by omega) (by omega) ?_
    exact ⟨rfl, ⟨Nat.le_refl _, Nat.le_succ _⟩, fun q => by rw [h56]; exact q, fun a a1 a2 => ⟨rfl, (hfr a (by omega)).1, (hfr a (by omega)).2.1, (hfr a (by omega)).2.2⟩, b, s, f, l, hC1⟩

set_option maxHeartbeats 4000000 in
set_option maxRecDepth 100000 in
theorem k_hints (o b s f l : Nat) (i : Nat) {t : Nat} {T : Nat → Nat} {fp : Int32} {rr : Nat → Int32} {H M : Nat} {un : Bool} {cs : Nat → List Nat} {tx : Nat → List Int32} {e : Lf} {im : Option Lf} {wk : Option (List Nat)} {n : Nat} {kd : mK} {I : mI} {J : mJ} {P : mP} (hC : CR o b s f l n kd I J P t T fp rr H M un cs tx e im wk) (hz : okZ t T H M cs e) (hw : fwB (zN H M un cs e) = true) (hi : i < (fsN H M un cs e).length) : Ct yX9_hints cX9_hints 2 (some .int) 10 1 6 [.ref o, .int (nI i)] n kd I J P (pK o n kd I J P (.inl (some (.int (oI (smC (fun D => apB (nmF (fsN H M un cs e)) (fsN H M un cs e).length H D i) (2 ^ H) (H + 1) 0))))) (CX o t T fp rr H M un cs tx e im wk)) := by
  have hC0 := hC
  have hz0 := hz
  obtain ⟨hX, hsc, hT, hSt, hLf, hIm, hWk, hQc, hPc⟩ := hC
  obtain ⟨okt, oks, okl⟩ := hz
  have hS := hX.S
  have hL := hX.L
  have hat := hX.at
  have hH8 : H ≤ 8 := oks.2.1
  have hM20 : 2 ≤ M ∧ M ≤ 20 := oks.1
  have hH : I b 0 = nI H := hSt.1.1
  have hMo : I b 1 = nI M := hSt.2.1
  obtain ⟨⟨x0, x1, x2⟩, -, ⟨-, -, hLk⟩, ⟨hQ, hA, hG, hW, hRd, hD, hPg⟩, ⟨p0, p3, p8, p10, p12, p13, p14, p15, p16, p17⟩, ⟨p4, p5, p6, p7⟩, -, -, -⟩ := id hX
  obtain ⟨hg, h40⟩ := fw_gd.mp hw
  refine ct_of 0 (by decide +kernel) (Nat.le_of_ble_eq_true rfl) rfl ?_
  refine r_aload_n dX9_hints_0 rfl ?_
  refine r_virt (kc2 := 0) (ks2 := 0) (k_ready o b s f l hC0 hz0 hw) lk_X9_218 mc_X9_readyToLook dX9_hints_1 x0 (by decide) rfl rfl (Nat.le_of_ble_eq_true rfl) (by decide) (by decide) (fun _ _ _ _ _ _ h => nomatch h.1) ?_
  rintro v1 n1 kd1 I1 J1 P1 ⟨h00, rfl, rfl, hfr, h56, hC1, g0, g1, g10, gJ⟩
  cases h00
  simp only [Option.toList, List.nil_append, List.cons_append]
  obtain ⟨⟨y0, y1, y2⟩, -, -, ⟨hQ1, hA1, hG1, hW1, -, -, -⟩, ⟨-, -, -, r10, r12, r13, r14, -, -, -⟩, ⟨r4, r5, r6, r7⟩, -, -, -⟩ := id hC1.1
  have hSL : lkM kd1 I1 J1 P1 (o + 56) (fsN H M un cs e).length H (nmF (fsN H M un cs e)) := ⟨hG1, g0, g1, gJ, h40, hH8⟩
  refine r_if_ne (tgt := 10) dX9_hints_4 (by decide) (fun _ => ?_) (fun hz => absurd hz (show ¬ _ from (by decide)))
  refine r_iload_n dX9_hints_10 rfl ?_
  refine r_if_lt (tgt := 25) dX9_hints_11 (by decide) (fun hz => absurd hz (show ¬ _ from (z_nlt (by omega)))) (fun _ => ?_)
  refine r_iload_n dX9_hints_14 rfl ?_
  refine r_aload_n dX9_hints_15 rfl ?_
  refine r_getR dX9_hints_16 fl_X9_54 rfl (by assumption) (by assumption) ?_
  refine r_getI dX9_hints_19 fl_X9_186 rfl hQ1.1 ?_
  rw [g10]
  refine r_icmp_lt (tgt := 33) dX9_hints_22 (by decide) (fun _ => ?_) (fun hz => absurd (show _ from ((nI_ltI (by omega) (by omega)).mpr hi)) hz)
  refine r_aload_n dX9_hints_33 rfl ?_
  refine r_getR dX9_hints_34 fl_X9_71 rfl (by assumption) (by assumption) ?_
  refine r_iload_n dX9_hints_37 rfl ?_
  refine r_virtE (c_hif (o + 56) (fsN H M un cs e).length H (nmF (fsN H M un cs e)) i hSL hi) lk_X9_232 mc_X3_hintsFor dX9_hints_38 hG1.1 (by decide) rfl rfl (Nat.le_of_ble_eq_true rfl) ?_
  refine r_iret rfl dX9_hints_41 ?_
  exact ⟨rfl, ⟨Nat.le_refl _, Nat.le_succ _⟩, fun q => by rw [h56]; exact q, fun a a1 a2 => ⟨rfl, (hfr a (by omega)).1, (hfr a (by omega)).2.1, (hfr a (by omega)).2.2⟩, b, s, f, l, hC1⟩

