/-! BUILD: one riddle counted -/
/-- what a search of a street with the new riddle finds -/
def bR (H M : Nat) (un : Bool) (cs : Nat → List Nat) (e : Lf) (r : List Nat) : Nat × List (Nat → Nat) × Bool := zR (H + 1) M un (csN cs H r) e (nI (spB H cs e ||| 2 ^ H)) (nI 1) 2
def bSt (acc : Option (Int32 × Int32)) (B : Nat × List (Nat → Nat) × Bool) (nm : Int32) : Option (Int32 × Int32) := match acc with
  | none => none
  | some (g, v) => if B.2.2 = true then none else if B.2.1.length = 1 then some (g + nI 1, if g = 0 then nm else v) else some (g, v)
theorem bSt_sp {g v nm : Int32} {B : Nat × List (Nat → Nat) × Bool} (h : B.2.2 = true) : bSt (some (g, v)) B nm = none := if_pos h
theorem bSt_1 {g v nm : Int32} {B : Nat × List (Nat → Nat) × Bool} (h : ¬ B.2.2 = true) (h1 : B.2.1.length = 1) : bSt (some (g, v)) B nm = some (g + nI 1, if g = 0 then nm else v) := by
  show (if B.2.2 = true then none else if B.2.1.length = 1 then some (g + nI 1, if g = 0 then nm else v) else some (g, v)) = _
  rw [if_neg h, if_pos h1]
theorem bSt_2 {g v nm : Int32} {B : Nat × List (Nat → Nat) × Bool} (h : ¬ B.2.2 = true) (h1 : ¬ B.2.1.length = 1) : bSt (some (g, v)) B nm = some (g, v) := by
  show (if B.2.2 = true then none else if B.2.1.length = 1 then some (g + nI 1, if g = 0 then nm else v) else some (g, v)) = _
  rw [if_neg h, if_neg h1]
def acR (acc : Option (Int32 × Int32)) (g v : Int32) : Prop := match acc with
  | none => True
  | some q => g = q.1 ∧ v = q.2
theorem tv_new {so de so' de' : Nat → Int32} {mo : Int32} {H : Nat} {cs : Nat → List Nat} (N : Nat → Nat) {k : Nat} (h : (so k = so' k ∧ de k = de' k) ∨ ∀ c ∈ cs k, ¬ (c = 20000 ∨ c = 20001)) : tvN so de mo H cs N k = tvN so' de' mo H cs N k := by
  rcases h with h | h
  · exact tv_cg N h.1 h.2
  · unfold tvN
    rw [evs_congr (o1 := opN so de mo k H N) (o2 := opN so' de' mo k H N) (cs k) [] (fun c hc c1 c2 => ?_)]
    have := h c hc
    unfold opN
    by_cases q : c < 20000
    · rw [if_pos q, if_pos q]
    · rw [if_neg q, if_neg q, if_pos (show c = 20002 by omega), if_pos (show c = 20002 by omega)]
theorem TN_new {un : Bool} {Lt Lt' so de so' de' : Nat → Int32} {L : Nat} {r w mo : Int32} {H : Nat} {lk : Nat → Nat} {cs : Nat → List Nat} (hL : ∀ j, j < 2 * L → Lt j = Lt' j) (h1 : ∀ k, k < H → (so k = so' k ∧ de k = de' k) ∨ ∀ c ∈ cs k, ¬ (c = 20000 ∨ c = 20001)) : TN un Lt L r w lk (tvN so de mo H cs) H = TN un Lt' L r w lk (tvN so' de' mo H cs) H := by
  funext N h
  unfold TN
  rw [rlR_cg H 0 (fun j _ hj => tv_new N (h1 j (by omega))), ltl_cg L 0 (fun j _ hj => hL j (by omega))]
theorem bR_c {I : mI} {f H M : Nat} {un : Bool} {cs : Nat → List Nat} {e : Lf} {r : List Nat} (hH8 : H < 8) (hM20 : M ≤ 20) (hr : ∀ c ∈ r, ¬ (c = 20000 ∨ c = 20001)) (hL : cL I f H e) : skTop (TN un (LtO e.2.2.2.2) e.2.2.2.2.length (nI (spB H cs e ||| 2 ^ H)) (nI 1) (lkO (csN cs H r) (H + 1)) (tvN (I (f + 1)) (I (f + 2)) (nI M) (H + 1) (csN cs H r)) (H + 1)) noB (H + 1) M 2 = some (bR H M un cs e r) := by
  rw [show TN un (LtO e.2.2.2.2) e.2.2.2.2.length (nI (spB H cs e ||| 2 ^ H)) (nI 1) (lkO (csN cs H r) (H + 1)) (tvN (I (f + 1)) (I (f + 2)) (nI M) (H + 1) (csN cs H r)) (H + 1) = zT (H + 1) M un (csN cs H r) e (nI (spB H cs e ||| 2 ^ H)) (nI 1) from by
    unfold zT tvO
    refine TN_new (fun _ _ => rfl) (fun k hk => ?_)
    by_cases q : k = H
    · right
      rw [q, csN_s]
      exact hr
    · exact Or.inl ⟨(hL.1 k (by omega)).1, (hL.1 k (by omega)).2⟩]
  exact zR_eq (by omega) hM20
theorem bR_len {H M : Nat} {un : Bool} {cs : Nat → List Nat} {e : Lf} {r : List Nat} (hH : H < 8) (hM : M ≤ 20) : (bR H M un cs e r).2.1.length ≤ 2 := zR_len (by omega) hM (by decide)
/-- the riddles that speak, the new one among them -/
theorem sp_new {I : mI} {s l H M : Nat} {un : Bool} {cs : Nat → List Nat} {e : Lf} {r : List Nat} (hH : H < 8) (hr : r ≠ []) (hS : stM (csN cs H r) (H + 1) I s) (hL : cL I l H e) : I s 3 &&& (I l 2 ^^^ (-1)) = nI (spB H cs e ||| 2 ^ H) := by
  refine b_ext (fun i hi => ?_)
  rw [b_and, b_xor, b_m1 _ hi, hS.2.1 i hi, hL.2.1 i hi, bt_nI _ hi, Nat.testBit_or, Nat.testBit_two_pow]
  unfold spB
  rw [alB_bit]
  by_cases q : i = H
  · subst q
    rw [csN_s, decide_eq_true (Nat.lt_succ_self i), decide_eq_true rfl, decide_eq_false (Nat.lt_irrefl i)]
    cases r with
    | nil => exact absurd rfl hr
    | cons a t => rfl
  · rw [csN_o q, decide_eq_false (show ¬ H = i from fun e => q e.symm)]
    by_cases q2 : i < H
    · rw [decide_eq_true q2, decide_eq_true (by omega)]
      cases (cs i).isEmpty <;> cases e.2.2.1 i <;> rfl
    · rw [decide_eq_false q2, decide_eq_false (by omega)]
      rfl
theorem stM.up {cs : Nat → List Nat} {H s : Nat} {I I' : mI} (h : ∀ a, s ≤ a → a ≤ s + 4 → I' a = I a) (hS : stM cs H I s) : stM cs H I' s := by
  unfold stM
  rw [h s (by omega) (by omega), h (s + 1) (by omega) (by omega), h (s + 2) (by omega) (by omega), h (s + 3) (by omega) (by omega), h (s + 4) (by omega) (by omega)]
  exact hS
theorem dX0_countRiddle_0 : decode cX0_countRiddle 0 = .ok (.aload_n 1, 1) := by decide +kernel
theorem dX0_countRiddle_1 : decode cX0_countRiddle 1 = .ok (.sipush 20009, 3) := by decide +kernel
theorem dX0_countRiddle_4 : decode cX0_countRiddle 4 = .ok (.invokevirtual 86, 3) := by decide +kernel
theorem dX0_countRiddle_7 : decode cX0_countRiddle 7 = .ok (.aload_n 0, 1) := by decide +kernel
theorem dX0_countRiddle_8 : decode cX0_countRiddle 8 = .ok (.getfield 12, 3) := by decide +kernel
theorem dX0_countRiddle_11 : decode cX0_countRiddle 11 = .ok (.aload_n 1, 1) := by decide +kernel
theorem dX0_countRiddle_12 : decode cX0_countRiddle 12 = .ok (.aload_n 2, 1) := by decide +kernel
theorem dX0_countRiddle_13 : decode cX0_countRiddle 13 = .ok (.aload_n 1, 1) := by decide +kernel
theorem dX0_countRiddle_14 : decode cX0_countRiddle 14 = .ok (.aload_n 2, 1) := by decide +kernel
theorem dX0_countRiddle_15 : decode cX0_countRiddle 15 = .ok (.invokevirtual 32, 3) := by decide +kernel
theorem dX0_countRiddle_18 : decode cX0_countRiddle 18 = .ok (.iconst 1, 1) := by decide +kernel
theorem dX0_countRiddle_19 : decode cX0_countRiddle 19 = .ok (.invokevirtual 38, 3) := by decide +kernel
theorem dX0_countRiddle_22 : decode cX0_countRiddle 22 = .ok (.aload_n 0, 1) := by decide +kernel
theorem dX0_countRiddle_23 : decode cX0_countRiddle 23 = .ok (.getfield 12, 3) := by decide +kernel
theorem dX0_countRiddle_26 : decode cX0_countRiddle 26 = .ok (.iconst 2, 1) := by decide +kernel
theorem dX0_countRiddle_27 : decode cX0_countRiddle 27 = .ok (.invokevirtual 42, 3) := by decide +kernel
theorem dX0_countRiddle_30 : decode cX0_countRiddle 30 = .ok (.istore 4, 2) := by decide +kernel
theorem dX0_countRiddle_32 : decode cX0_countRiddle 32 = .ok (.iload 4, 2) := by decide +kernel
theorem dX0_countRiddle_34 : decode cX0_countRiddle 34 = .ok (.iconst 1, 1) := by decide +kernel
theorem dX0_countRiddle_35 : decode cX0_countRiddle 35 = .ok (.if_icmp .ne 32, 3) := by decide +kernel
theorem dX0_countRiddle_38 : decode cX0_countRiddle 38 = .ok (.aload_n 0, 1) := by decide +kernel
theorem dX0_countRiddle_39 : decode cX0_countRiddle 39 = .ok (.aload_n 0, 1) := by decide +kernel
theorem dX0_countRiddle_40 : decode cX0_countRiddle 40 = .ok (.getfield 25, 3) := by decide +kernel
theorem dX0_countRiddle_43 : decode cX0_countRiddle 43 = .ok (.ifCond .ne 7, 3) := by decide +kernel
theorem dX0_countRiddle_46 : decode cX0_countRiddle 46 = .ok (.iload_n 3, 1) := by decide +kernel
theorem dX0_countRiddle_47 : decode cX0_countRiddle 47 = .ok (.goto 7, 3) := by decide +kernel
theorem dX0_countRiddle_50 : decode cX0_countRiddle 50 = .ok (.aload_n 0, 1) := by decide +kernel
theorem dX0_countRiddle_51 : decode cX0_countRiddle 51 = .ok (.getfield 29, 3) := by decide +kernel
theorem dX0_countRiddle_54 : decode cX0_countRiddle 54 = .ok (.putfield 29, 3) := by decide +kernel
theorem dX0_countRiddle_57 : decode cX0_countRiddle 57 = .ok (.aload_n 0, 1) := by decide +kernel
theorem dX0_countRiddle_58 : decode cX0_countRiddle 58 = .ok (.dup, 1) := by decide +kernel
theorem dX0_countRiddle_59 : decode cX0_countRiddle 59 = .ok (.getfield 25, 3) := by decide +kernel
theorem dX0_countRiddle_62 : decode cX0_countRiddle 62 = .ok (.iconst 1, 1) := by decide +kernel
theorem dX0_countRiddle_63 : decode cX0_countRiddle 63 = .ok (.iadd, 1) := by decide +kernel
theorem dX0_countRiddle_64 : decode cX0_countRiddle 64 = .ok (.putfield 25, 3) := by decide +kernel
theorem dX0_countRiddle_67 : decode cX0_countRiddle 67 = .ok (.iload 4, 2) := by decide +kernel
theorem dX0_countRiddle_69 : decode cX0_countRiddle 69 = .ok (.bipush (-2), 2) := by decide +kernel
theorem dX0_countRiddle_71 : decode cX0_countRiddle 71 = .ok (.if_icmp .eq 7, 3) := by decide +kernel
theorem dX0_countRiddle_74 : decode cX0_countRiddle 74 = .ok (.iconst 1, 1) := by decide +kernel
theorem dX0_countRiddle_75 : decode cX0_countRiddle 75 = .ok (.goto 4, 3) := by decide +kernel
theorem dX0_countRiddle_78 : decode cX0_countRiddle 78 = .ok (.iconst 0, 1) := by decide +kernel
theorem dX0_countRiddle_79 : decode cX0_countRiddle 79 = .ok (.ireturn, 1) := by decide +kernel

def bLp (o b s f l n : Nat) (kd : mK) (I0 : mI) (J0 : mJ) (P0 : mP) (I : mI) (J : mJ) (P : mP) (t : Nat) (T : Nat → Nat) (fp : Int32) (rr : Nat → Int32) (H M : Nat) (un : Bool) (cs : Nat → List Nat) (tx : Nat → List Int32) (e : Lf) (im : Option Lf) (wk : Option (List Nat)) (acc : Option (Int32 × Int32)) : Prop := CR o b s f l n kd I J P t T fp rr H M un cs tx e im wk ∧ Bs o I0 I J0 J P0 P ∧ cL I l H e ∧ nwS I s H M un cs ∧ acR acc (I (o + 47) 3) (I (o + 47) 4)
set_option maxHeartbeats 4000000 in
set_option maxRecDepth 100000 in
theorem c_countR2 (o b s f l : Nat) (r : List Nat) (g v nm : Int32) {I0 : mI} {J0 : mJ} {P0 : mP} {t : Nat} {T : Nat → Nat} {fp : Int32} {rr : Nat → Int32} {H M : Nat} {un : Bool} {cs : Nat → List Nat} {tx : Nat → List Int32} {e : Lf} {im : Option Lf} {wk : Option (List Nat)} {n : Nat} {kd : mK} {I : mI} {J : mJ} {P : mP} (hC : CR o b s f l n kd I J P t T fp rr H M un cs tx e im wk) (hz : okZ t T H M cs e) (hB : Bs o I0 I J0 J P0 P) (hcl : cL I l H e) (hH7 : H < 8) (hp : nwP I s H M un cs r) (hrl : r.length ≤ 4) (hro : okd (r ++ [20009]) 0 ∧ ∀ c ∈ r ++ [20009], c < 20012 ∧ (10000 ≤ c → c < 20000 → c < 10009)) (hrn : ∀ c ∈ r ++ [20009], ¬ (c = 20000 ∨ c = 20001)) (h3 : I (o + 47) 3 = g) (h4 : I (o + 47) 4 = v) : Ct yX0_countRiddle cX0_countRiddle 5 (some .boolean) 8 0 0 [.ref (o + 47), .ref s, .ref l, .int nm] n kd I J P (fun z n' kd' I' J' P' => z = .inl (some (.int (bz (bSt (some (g, v)) (bR H M un cs e (r ++ [20009])) nm).isSome))) ∧ n' = n ∧ kd' = kd ∧ bLp o b s f l n kd I0 J0 P0 I' J' P' t T fp rr H M un cs tx e im wk (bSt (some (g, v)) (bR H M un cs e (r ++ [20009])) nm)) := by
  have hC0 := hC
  obtain ⟨okt, oks, okl⟩ := hz
  have hM20 : 2 ≤ M ∧ M ≤ 20 := oks.1
  have hX := hC.1
  have hSs := hX.S2
  have hL2 := hX.L2
  have hat := hX.at
  obtain ⟨-, -, -, ⟨-, hA, -, -, -, -, -⟩, -, -, -, -, -⟩ := id hX
  have hof : ofs cs H ≤ 500 := oks.2.2.1
  have hlen := bR_len (un := un) (cs := cs) (e := e) (r := r ++ [20009]) hH7 hM20.2
  have hne : r ++ [20009] ≠ [] := by simp
  refine ct_of 1 (by decide +kernel) (Nat.le_of_ble_eq_true rfl) rfl ?_
  by_cases hg : (bR H M un cs e (r ++ [20009])).2.2 = true
  · skip
    refine r_aload_n dX0_countRiddle_0 rfl ?_
    refine r_sipush (v := nI 20009) dX0_countRiddle_1 (by decide) ?_
    refine r_virt (kc2 := 0) (ks2 := 0) (c_codeP 20009 hSs hH7 (by omega) (by decide) (fun _ q => absurd q (by decide)) hp) lk_X0_86 mc_X7_addCode dX0_countRiddle_4 hSs.1 (by decide) rfl rfl (Nat.le_of_ble_eq_true rfl) (by decide) (by decide) (fun _ _ _ _ _ _ h => nomatch h.1) ?_
    rintro v1 n1 kd1 I1 J1 P1 ⟨h00, rfl, rfl, rfl, rfl, hf1, hp1⟩
    cases h00
    simp only [Option.toList, List.nil_append]
    have hC1 := hC0.sp (I' := I1) (fun a ha => hf1 a (by omega))
    have hB1 := Bs.sp (I' := I1) (s := s) (by omega) (fun a ha => hf1 a (by omega)) hB
    have hcl1 := hcl.cg (I' := I1) (fun a a1 a2 => hf1 a (by omega))
    have hst1 := hp1.st hH7 hne
    have e31 : I1 (o + 47) 3 = g := by rw [hf1 _ (by omega)]; exact h3
    have e41 : I1 (o + 47) 4 = v := by rw [hf1 _ (by omega)]; exact h4
    have hcs1 : clS I1 s l (H + 1) M e.2.2.2.2.length (lkO (csN cs H (r ++ [20009])) (H + 1)) (csN cs H (r ++ [20009])) un (LtO e.2.2.2.2) (I1 (l + 1)) (I1 (l + 2)) := z_clM (L := 0) hst1 hp1.1.1.2.1 hp1.1.1.2.2.1 (by omega) hM20.2 (by show ofs _ H + _ ≤ 520; rw [csN_ofs H (Nat.le_refl H), csN_s, List.length_append]; show _ + (_ + 1) ≤ 520; omega) (fun x hx => by
      by_cases q : x = H
      · rw [q, csN_s]; exact ⟨fun _ => hro.1, hro.2⟩
      · rw [csN_o q]; exact oks.2.2.2 x (by omega)) hcl1.2.2.2.1 okl.2.2.1 hcl1.2.2.2.2 (fun q hq => (okl.2.2.2 q hq).2.2)
    have hsp1 := sp_new (M := M) (un := un) hH7 hne hst1 hcl1
    refine r_aload_n dX0_countRiddle_7 rfl ?_
    refine r_getR dX0_countRiddle_8 fl_X0_12 rfl hA.1 hA.2.2.2.2.1 ?_
    refine r_aload_n dX0_countRiddle_11 rfl ?_
    refine r_aload_n dX0_countRiddle_12 rfl ?_
    refine r_aload_n dX0_countRiddle_13 rfl ?_
    refine r_aload_n dX0_countRiddle_14 rfl ?_
    refine r_virtE (c_X7_speaking s l hSs hL2) lk_X0_32 mc_X7_speaking dX0_countRiddle_15 hSs.1 (by decide) rfl rfl (Nat.le_of_ble_eq_true rfl) ?_
    rw [hsp1]
    refine r_iconst (v := nI 1) dX0_countRiddle_18 (by decide) ?_
    refine r_virtV (c_setUpN (o + 48) s l (H + 1) M e.2.2.2.2.length (nI (spB H cs e ||| 2 ^ H)) (nI 1) (lkO (csN cs H (r ++ [20009])) (H + 1)) (csN cs H (r ++ [20009])) un (LtO e.2.2.2.2) (I1 (l + 1)) (I1 (l + 2)) hSs hL2 hA.2.1 (by omega) (by omega) (by omega) (by omega) hcs1) lk_X0_38 mc_X6_setUp dX0_countRiddle_19 hA.2.1.1 (by decide) rfl rfl (Nat.le_of_ble_eq_true rfl) ?_
    refine r_aload_n dX0_countRiddle_22 rfl ?_
    refine r_getR dX0_countRiddle_23 fl_X0_12 rfl hA.1 (by unfold suP; rw [am_up_n _ _ (by omega)]; exact hA.2.2.2.2.1) ?_
    refine r_iconst (v := nI 2) dX0_countRiddle_26 (by decide) ?_
    refine r_virt (kc2 := 0) (ks2 := 0) (c_seekN (o + 48) s l (H + 1) M e.2.2.2.2.length (nI (spB H cs e ||| 2 ^ H)) (nI 1) (lkO (csN cs H (r ++ [20009])) (H + 1)) (csN cs H (r ++ [20009])) un (LtO e.2.2.2.2) (I1 (l + 1)) (I1 (l + 2)) 2 (bR H M un cs e (r ++ [20009])) hSs hL2 hA.2.1 (by omega) (by omega) (by omega) (by omega) hcs1 hM20.2 (by decide) (by decide) (fun k hk hb => by rw [← hsp1, b_and, Bool.and_eq_true] at hb; exact hb.1) (bR_c hH7 hM20.2 hrn hcl1)) lk_X0_42 mc_X6_seek dX0_countRiddle_27 hA.2.1.1 (by decide) rfl rfl (Nat.le_of_ble_eq_true rfl) (by decide) (by decide) (fun _ _ _ _ _ _ h => nomatch h.1) ?_
    rintro v4 n4 kd4 I4 J4 P4 ⟨h00, rfl, rfl, hqf, hsp4, hf9, hf10, hf5, hJ4⟩
    cases h00
    simp only [Option.toList, List.nil_append, List.cons_append]
    have hC4 := hC1.qf (Or.inr rfl) hqf
    have hB4 := hB1.qf (x := s) (by omega) hqf
    have hcl4 := hcl1.cg (I' := I4) (fun a a1 a2 => hqf.1 a (by omega) (by omega))
    have hn4 := hp1.1.cg (I' := I4) (fun a a1 a2 => hqf.1 a (by omega) (by omega))
    have e34 : I4 (o + 47) 3 = g := by rw [hqf.1 _ (by omega) (by omega)]; exact e31
    have e44 : I4 (o + 47) 4 = v := by rw [hqf.1 _ (by omega) (by omega)]; exact e41
    obtain ⟨-, -, -, ⟨-, hA4, -, -, -, -, -⟩, -, -, -, -, -⟩ := id hC4.1
    rw [show skv (bR H M un cs e (r ++ [20009])).2.2 (bR H M un cs e (r ++ [20009])).2.1 = -2 from by unfold skv; rw [if_pos hg]]
    refine r_istore dX0_countRiddle_30 (by decide) ?_
    refine r_iload dX0_countRiddle_32 rfl ?_
    refine r_iconst (v := nI 1) dX0_countRiddle_34 (by decide) ?_
    refine r_icmp_ne (tgt := 67) dX0_countRiddle_35 (by decide) (fun _ => ?_) (fun hz => absurd hz (show ¬ _ from (by decide)))
    refine r_iload dX0_countRiddle_67 rfl ?_
    refine r_bipush (v := (-2)) dX0_countRiddle_69 (by decide) ?_
    refine r_icmp_eq (tgt := 78) dX0_countRiddle_71 (by decide) (fun _ => ?_) (fun hz => absurd (show _ from rfl) hz)
    refine r_iconst (v := nI 0) dX0_countRiddle_78 (by decide) ?_
    refine r_zret rfl dX0_countRiddle_79 (by first | exact Or.inl rfl | exact Or.inr rfl | assumption) ?_
    rw [bSt_sp hg]
    exact ⟨rfl, rfl, rfl, hC4, hB4, hcl4, hn4, trivial⟩
  · by_cases c1 : (bR H M un cs e (r ++ [20009])).2.1.length = 1
    · by_cases c2 : g = 0
      · skip
        refine r_aload_n dX0_countRiddle_0 rfl ?_
        refine r_sipush (v := nI 20009) dX0_countRiddle_1 (by decide) ?_
        refine r_virt (kc2 := 0) (ks2 := 0) (c_codeP 20009 hSs hH7 (by omega) (by decide) (fun _ q => absurd q (by decide)) hp) lk_X0_86 mc_X7_addCode dX0_countRiddle_4 hSs.1 (by decide) rfl rfl (Nat.le_of_ble_eq_true rfl) (by decide) (by decide) (fun _ _ _ _ _ _ h => nomatch h.1) ?_
        rintro v1 n1 kd1 I1 J1 P1 ⟨h00, rfl, rfl, rfl, rfl, hf1, hp1⟩
        cases h00
        simp only [Option.toList, List.nil_append]
        have hC1 := hC0.sp (I' := I1) (fun a ha => hf1 a (by omega))
        have hB1 := Bs.sp (I' := I1) (s := s) (by omega) (fun a ha => hf1 a (by omega)) hB
        have hcl1 := hcl.cg (I' := I1) (fun a a1 a2 => hf1 a (by omega))
        have hst1 := hp1.st hH7 hne
        have e31 : I1 (o + 47) 3 = g := by rw [hf1 _ (by omega)]; exact h3
        have e41 : I1 (o + 47) 4 = v := by rw [hf1 _ (by omega)]; exact h4
        have hcs1 : clS I1 s l (H + 1) M e.2.2.2.2.length (lkO (csN cs H (r ++ [20009])) (H + 1)) (csN cs H (r ++ [20009])) un (LtO e.2.2.2.2) (I1 (l + 1)) (I1 (l + 2)) := z_clM (L := 0) hst1 hp1.1.1.2.1 hp1.1.1.2.2.1 (by omega) hM20.2 (by show ofs _ H + _ ≤ 520; rw [csN_ofs H (Nat.le_refl H), csN_s, List.length_append]; show _ + (_ + 1) ≤ 520; omega) (fun x hx => by
          by_cases q : x = H
          · rw [q, csN_s]; exact ⟨fun _ => hro.1, hro.2⟩
          · rw [csN_o q]; exact oks.2.2.2 x (by omega)) hcl1.2.2.2.1 okl.2.2.1 hcl1.2.2.2.2 (fun q hq => (okl.2.2.2 q hq).2.2)
        have hsp1 := sp_new (M := M) (un := un) hH7 hne hst1 hcl1
        refine r_aload_n dX0_countRiddle_7 rfl ?_
        refine r_getR dX0_countRiddle_8 fl_X0_12 rfl hA.1 hA.2.2.2.2.1 ?_
        refine r_aload_n dX0_countRiddle_11 rfl ?_
        refine r_aload_n dX0_countRiddle_12 rfl ?_
        refine r_aload_n dX0_countRiddle_13 rfl ?_
        refine r_aload_n dX0_countRiddle_14 rfl ?_
        refine r_virtE (c_X7_speaking s l hSs hL2) lk_X0_32 mc_X7_speaking dX0_countRiddle_15 hSs.1 (by decide) rfl rfl (Nat.le_of_ble_eq_true rfl) ?_
        rw [hsp1]
        refine r_iconst (v := nI 1) dX0_countRiddle_18 (by decide) ?_
        refine r_virtV (c_setUpN (o + 48) s l (H + 1) M e.2.2.2.2.length (nI (spB H cs e ||| 2 ^ H)) (nI 1) (lkO (csN cs H (r ++ [20009])) (H + 1)) (csN cs H (r ++ [20009])) un (LtO e.2.2.2.2) (I1 (l + 1)) (I1 (l + 2)) hSs hL2 hA.2.1 (by omega) (by omega) (by omega) (by omega) hcs1) lk_X0_38 mc_X6_setUp dX0_countRiddle_19 hA.2.1.1 (by decide) rfl rfl (Nat.le_of_ble_eq_true rfl) ?_
        refine r_aload_n dX0_countRiddle_22 rfl ?_
        refine r_getR dX0_countRiddle_23 fl_X0_12 rfl hA.1 (by unfold suP; rw [am_up_n _ _ (by omega)]; exact hA.2.2.2.2.1) ?_
        refine r_iconst (v := nI 2) dX0_countRiddle_26 (by decide) ?_
        refine r_virt (kc2 := 0) (ks2 := 0) (c_seekN (o + 48) s l (H + 1) M e.2.2.2.2.length (nI (spB H cs e ||| 2 ^ H)) (nI 1) (lkO (csN cs H (r ++ [20009])) (H + 1)) (csN cs H (r ++ [20009])) un (LtO e.2.2.2.2) (I1 (l + 1)) (I1 (l + 2)) 2 (bR H M un cs e (r ++ [20009])) hSs hL2 hA.2.1 (by omega) (by omega) (by omega) (by omega) hcs1 hM20.2 (by decide) (by decide) (fun k hk hb => by rw [← hsp1, b_and, Bool.and_eq_true] at hb; exact hb.1) (bR_c hH7 hM20.2 hrn hcl1)) lk_X0_42 mc_X6_seek dX0_countRiddle_27 hA.2.1.1 (by decide) rfl rfl (Nat.le_of_ble_eq_true rfl) (by decide) (by decide) (fun _ _ _ _ _ _ h => nomatch h.1) ?_
        rintro v4 n4 kd4 I4 J4 P4 ⟨h00, rfl, rfl, hqf, hsp4, hf9, hf10, hf5, hJ4⟩
        cases h00
        simp only [Option.toList, List.nil_append, List.cons_append]
        have hC4 := hC1.qf (Or.inr rfl) hqf
        have hB4 := hB1.qf (x := s) (by omega) hqf
        have hcl4 := hcl1.cg (I' := I4) (fun a a1 a2 => hqf.1 a (by omega) (by omega))
        have hn4 := hp1.1.cg (I' := I4) (fun a a1 a2 => hqf.1 a (by omega) (by omega))
        have e34 : I4 (o + 47) 3 = g := by rw [hqf.1 _ (by omega) (by omega)]; exact e31
        have e44 : I4 (o + 47) 4 = v := by rw [hqf.1 _ (by omega) (by omega)]; exact e41
        obtain ⟨-, -, -, ⟨-, hA4, -, -, -, -, -⟩, -, -, -, -, -⟩ := id hC4.1
        rw [show skv (bR H M un cs e (r ++ [20009])).2.2 (bR H M un cs e (r ++ [20009])).2.1 = nI (bR H M un cs e (r ++ [20009])).2.1.length from by unfold skv; rw [if_neg hg]]
        refine r_istore dX0_countRiddle_30 (by decide) ?_
        refine r_iload dX0_countRiddle_32 rfl ?_
        refine r_iconst (v := nI 1) dX0_countRiddle_34 (by decide) ?_
        refine r_icmp_ne (tgt := 67) dX0_countRiddle_35 (by decide) (fun hz => absurd (show _ from (by rw [c1])) hz) (fun _ => ?_)
        refine r_aload_n dX0_countRiddle_38 rfl ?_
        refine r_aload_n dX0_countRiddle_39 rfl ?_
        refine r_getI dX0_countRiddle_40 fl_X0_25 rfl hA4.1 ?_
        rw [e34]
        refine r_if_ne (tgt := 50) dX0_countRiddle_43 (by decide) (fun hz => absurd (show _ from c2) hz) (fun _ => ?_)
        refine r_iload_n dX0_countRiddle_46 rfl ?_
        refine r_goto (tgt := 54) dX0_countRiddle_47 (by decide) ?_
        refine r_putI dX0_countRiddle_54 fl_X0_29 rfl rfl hA4.1 ?_
        refine r_aload_n dX0_countRiddle_57 rfl ?_
        refine r_dup dX0_countRiddle_58 rfl ?_
        refine r_getI dX0_countRiddle_59 fl_X0_25 rfl hA4.1 ?_
        rw [am_up_s, am_up_n _ _ (by decide), e34]
        refine r_iconst (v := nI 1) dX0_countRiddle_62 (by decide) ?_
        refine r_iadd dX0_countRiddle_63 ?_
        refine r_putI dX0_countRiddle_64 fl_X0_25 rfl rfl hA4.1 ?_
        rw [am_up_s, am_up_up]
        refine r_iload dX0_countRiddle_67 rfl ?_
        refine r_bipush (v := (-2)) dX0_countRiddle_69 (by decide) ?_
        refine r_icmp_eq (tgt := 78) dX0_countRiddle_71 (by decide) (fun hz => absurd hz (show ¬ _ from (nI_m2 (by omega)))) (fun _ => ?_)
        refine r_iconst (v := nI 1) dX0_countRiddle_74 (by decide) ?_
        refine r_goto (tgt := 79) dX0_countRiddle_75 (by decide) ?_
        refine r_zret rfl dX0_countRiddle_79 (by first | exact Or.inl rfl | exact Or.inr rfl | assumption) ?_
        rw [bSt_1 hg c1]
        refine ⟨rfl, rfl, rfl, hC4.up (x := o + 47) (by omega), hB4.up (by omega), hcl4.cg (fun a a1 a2 => am_up_n _ _ (by omega)), hn4.cg (fun a a1 a2 => am_up_n _ _ (by omega)), ?_, ?_⟩
        · rw [am_up_s, am_up_s]
        · rw [am_up_s, am_up_n _ _ (by decide), am_up_s, if_pos c2]
      · skip
        refine r_aload_n dX0_countRiddle_0 rfl ?_
        refine r_sipush (v := nI 20009) dX0_countRiddle_1 (by decide) ?_
        refine r_virt (kc2 := 0) (ks2 := 0) (c_codeP 20009 hSs hH7 (by omega) (by decide) (fun _ q => absurd q (by decide)) hp) lk_X0_86 mc_X7_addCode dX0_countRiddle_4 hSs.1 (by decide) rfl rfl (Nat.le_of_ble_eq_true rfl) (by decide) (by decide) (fun _ _ _ _ _ _ h => nomatch h.1) ?_
        rintro v1 n1 kd1 I1 J1 P1 ⟨h00, rfl, rfl, rfl, rfl, hf1, hp1⟩
        cases h00
        simp only [Option.toList, List.nil_append]
        have hC1 := hC0.sp (I' := I1) (fun a ha => hf1 a (by omega))
        have hB1 := Bs.sp (I' := I1) (s := s) (by omega) (fun a ha => hf1 a (by omega)) hB
        have hcl1 := hcl.cg (I' := I1) (fun a a1 a2 => hf1 a (by omega))
        have hst1 := hp1.st hH7 hne
        have e31 : I1 (o + 47) 3 = g := by rw [hf1 _ (by omega)]; exact h3
        have e41 : I1 (o + 47) 4 = v := by rw [hf1 _ (by omega)]; exact h4
        have hcs1 : clS I1 s l (H + 1) M e.2.2.2.2.length (lkO (csN cs H (r ++ [20009])) (H + 1)) (csN cs H (r ++ [20009])) un (LtO e.2.2.2.2) (I1 (l + 1)) (I1 (l + 2)) := z_clM (L := 0) hst1 hp1.1.1.2.1 hp1.1.1.2.2.1 (by omega) hM20.2 (by show ofs _ H + _ ≤ 520; rw [csN_ofs H (Nat.le_refl H), csN_s, List.length_append]; show _ + (_ + 1) ≤ 520; omega) (fun x hx => by
          by_cases q : x = H
          · rw [q, csN_s]; exact ⟨fun _ => hro.1, hro.2⟩
          · rw [csN_o q]; exact oks.2.2.2 x (by omega)) hcl1.2.2.2.1 okl.2.2.1 hcl1.2.2.2.2 (fun q hq => (okl.2.2.2 q hq).2.2)
        have hsp1 := sp_new (M := M) (un := un) hH7 hne hst1 hcl1
        refine r_aload_n dX0_countRiddle_7 rfl ?_
        refine r_getR dX0_countRiddle_8 fl_X0_12 rfl hA.1 hA.2.2.2.2.1 ?_
        refine r_aload_n dX0_countRiddle_11 rfl ?_
        refine r_aload_n dX0_countRiddle_12 rfl ?_
        refine r_aload_n dX0_countRiddle_13 rfl ?_
        refine r_aload_n dX0_countRiddle_14 rfl ?_
        refine r_virtE (c_X7_speaking s l hSs hL2) lk_X0_32 mc_X7_speaking dX0_countRiddle_15 hSs.1 (by decide) rfl rfl (Nat.le_of_ble_eq_true rfl) ?_
        rw [hsp1]
        refine r_iconst (v := nI 1) dX0_countRiddle_18 (by decide) ?_
        refine r_virtV (c_setUpN (o + 48) s l (H + 1) M e.2.2.2.2.length (nI (spB H cs e ||| 2 ^ H)) (nI 1) (lkO (csN cs H (r ++ [20009])) (H + 1)) (csN cs H (r ++ [20009])) un (LtO e.2.2.2.2) (I1 (l + 1)) (I1 (l + 2)) hSs hL2 hA.2.1 (by omega) (by omega) (by omega) (by omega) hcs1) lk_X0_38 mc_X6_setUp dX0_countRiddle_19 hA.2.1.1 (by decide) rfl rfl (Nat.le_of_ble_eq_true rfl) ?_
        refine r_aload_n dX0_countRiddle_22 rfl ?_
        refine r_getR dX0_countRiddle_23 fl_X0_12 rfl hA.1 (by unfold suP; rw [am_up_n _ _ (by omega)]; exact hA.2.2.2.2.1) ?_
        refine r_iconst (v := nI 2) dX0_countRiddle_26 (by decide) ?_
        refine r_virt (kc2 := 0) (ks2 := 0) (c_seekN (o + 48) s l (H + 1) M e.2.2.2.2.length (nI (spB H cs e ||| 2 ^ H)) (nI 1) (lkO (csN cs H (r ++ [20009])) (H + 1)) (csN cs H (r ++ [20009])) un (LtO e.2.2.2.2) (I1 (l + 1)) (I1 (l + 2)) 2 (bR H M un cs e (r ++ [20009])) hSs hL2 hA.2.1 (by omega) (by omega) (by omega) (by omega) hcs1 hM20.2 (by decide) (by decide) (fun k hk hb => by rw [← hsp1, b_and, Bool.and_eq_true] at hb; exact hb.1) (bR_c hH7 hM20.2 hrn hcl1)) lk_X0_42 mc_X6_seek dX0_countRiddle_27 hA.2.1.1 (by decide) rfl rfl (Nat.le_of_ble_eq_true rfl) (by decide) (by decide) (fun _ _ _ _ _ _ h => nomatch h.1) ?_
        rintro v4 n4 kd4 I4 J4 P4 ⟨h00, rfl, rfl, hqf, hsp4, hf9, hf10, hf5, hJ4⟩
        cases h00
        simp only [Option.toList, List.nil_append, List.cons_append]
        have hC4 := hC1.qf (Or.inr rfl) hqf
        have hB4 := hB1.qf (x := s) (by omega) hqf
        have hcl4 := hcl1.cg (I' := I4) (fun a a1 a2 => hqf.1 a (by omega) (by omega))
        have hn4 := hp1.1.cg (I' := I4) (fun a a1 a2 => hqf.1 a (by omega) (by omega))
        have e34 : I4 (o + 47) 3 = g := by rw [hqf.1 _ (by omega) (by omega)]; exact e31
        have e44 : I4 (o + 47) 4 = v := by rw [hqf.1 _ (by omega) (by omega)]; exact e41
        obtain ⟨-, -, -, ⟨-, hA4, -, -, -, -, -⟩, -, -, -, -, -⟩ := id hC4.1
        rw [show skv (bR H M un cs e (r ++ [20009])).2.2 (bR H M un cs e (r ++ [20009])).2.1 = nI (bR H M un cs e (r ++ [20009])).2.1.length from by unfold skv; rw [if_neg hg]]
        refine r_istore dX0_countRiddle_30 (by decide) ?_
        refine r_iload dX0_countRiddle_32 rfl ?_
        refine r_iconst (v := nI 1) dX0_countRiddle_34 (by decide) ?_
        refine r_icmp_ne (tgt := 67) dX0_countRiddle_35 (by decide) (fun hz => absurd (show _ from (by rw [c1])) hz) (fun _ => ?_)
        refine r_aload_n dX0_countRiddle_38 rfl ?_
        refine r_aload_n dX0_countRiddle_39 rfl ?_
        refine r_getI dX0_countRiddle_40 fl_X0_25 rfl hA4.1 ?_
        rw [e34]
        refine r_if_ne (tgt := 50) dX0_countRiddle_43 (by decide) (fun _ => ?_) (fun hz => absurd hz (show ¬ _ from c2))
        refine r_aload_n dX0_countRiddle_50 rfl ?_
        refine r_getI dX0_countRiddle_51 fl_X0_29 rfl hA4.1 ?_
        refine r_putI dX0_countRiddle_54 fl_X0_29 rfl rfl hA4.1 ?_
        refine r_aload_n dX0_countRiddle_57 rfl ?_
        refine r_dup dX0_countRiddle_58 rfl ?_
        refine r_getI dX0_countRiddle_59 fl_X0_25 rfl hA4.1 ?_
        rw [am_up_s, am_up_n _ _ (by decide), e34]
        refine r_iconst (v := nI 1) dX0_countRiddle_62 (by decide) ?_
        refine r_iadd dX0_countRiddle_63 ?_
        refine r_putI dX0_countRiddle_64 fl_X0_25 rfl rfl hA4.1 ?_
        rw [am_up_s, am_up_up]
        refine r_iload dX0_countRiddle_67 rfl ?_
        refine r_bipush (v := (-2)) dX0_countRiddle_69 (by decide) ?_
        refine r_icmp_eq (tgt := 78) dX0_countRiddle_71 (by decide) (fun hz => absurd hz (show ¬ _ from (nI_m2 (by omega)))) (fun _ => ?_)
        refine r_iconst (v := nI 1) dX0_countRiddle_74 (by decide) ?_
        refine r_goto (tgt := 79) dX0_countRiddle_75 (by decide) ?_
        refine r_zret rfl dX0_countRiddle_79 (by first | exact Or.inl rfl | exact Or.inr rfl | assumption) ?_
        rw [bSt_1 hg c1]
        refine ⟨rfl, rfl, rfl, hC4.up (x := o + 47) (by omega), hB4.up (by omega), hcl4.cg (fun a a1 a2 => am_up_n _ _ (by omega)), hn4.cg (fun a a1 a2 => am_up_n _ _ (by omega)), ?_, ?_⟩
        · rw [am_up_s, am_up_s]
        · rw [am_up_s, am_up_n _ _ (by decide), am_up_s, if_neg c2, e44]
    · skip
      refine r_aload_n dX0_countRiddle_0 rfl ?_
      refine r_sipush (v := nI 20009) dX0_countRiddle_1 (by decide) ?_
      refine r_virt (kc2 := 0) (ks2 := 0) (c_codeP 20009 hSs hH7 (by omega) (by decide) (fun _ q => absurd q (by decide)) hp) lk_X0_86 mc_X7_addCode dX0_countRiddle_4 hSs.1 (by decide) rfl rfl (Nat.le_of_ble_eq_true rfl) (by decide) (by decide) (fun _ _ _ _ _ _ h => nomatch h.1) ?_
      rintro v1 n1 kd1 I1 J1 P1 ⟨h00, rfl, rfl, rfl, rfl, hf1, hp1⟩
      cases h00
      simp only [Option.toList, List.nil_append]
      have hC1 := hC0.sp (I' := I1) (fun a ha => hf1 a (by omega))
      have hB1 := Bs.sp (I' := I1) (s := s) (by omega) (fun a ha => hf1 a (by omega)) hB
      have hcl1 := hcl.cg (I' := I1) (fun a a1 a2 => hf1 a (by omega))
      have hst1 := hp1.st hH7 hne
      have e31 : I1 (o + 47) 3 = g := by rw [hf1 _ (by omega)]; exact h3
      have e41 : I1 (o + 47) 4 = v := by rw [hf1 _ (by omega)]; exact h4
      have hcs1 : clS I1 s l (H + 1) M e.2.2.2.2.length (lkO (csN cs H (r ++ [20009])) (H + 1)) (csN cs H (r ++ [20009])) un (LtO e.2.2.2.2) (I1 (l + 1)) (I1 (l + 2)) := z_clM (L := 0) hst1 hp1.1.1.2.1 hp1.1.1.2.2.1 (by omega) hM20.2 (by show ofs _ H + _ ≤ 520; rw [csN_ofs H (Nat.le_refl H), csN_s, List.length_append]; show _ + (_ + 1) ≤ 520; omega) (fun x hx => by
        by_cases q : x = H
        · rw [q, csN_s]; exact ⟨fun _ => hro.1, hro.2⟩
        · rw [csN_o q]; exact oks.2.2.2 x (by omega)) hcl1.2.2.2.1 okl.2.2.1 hcl1.2.2.2.2 (fun q hq => (okl.2.2.2 q hq).2.2)
      have hsp1 := sp_new (M := M) (un := un) hH7 hne hst1 hcl1
      refine r_aload_n dX0_countRiddle_7 rfl ?_
      refine r_getR dX0_countRiddle_8 fl_X0_12 rfl hA.1 hA.2.2.2.2.1 ?_
      refine r_aload_n dX0_countRiddle_11 rfl ?_
      refine r_aload_n dX0_countRiddle_12 rfl ?_
      refine r_aload_n dX0_countRiddle_13 rfl ?_
      refine r_aload_n dX0_countRiddle_14 rfl ?_
      refine r_virtE (c_X7_speaking s l hSs hL2) lk_X0_32 mc_X7_speaking dX0_countRiddle_15 hSs.1 (by decide) rfl rfl (Nat.le_of_ble_eq_true rfl) ?_
      rw [hsp1]
      refine r_iconst (v := nI 1) dX0_countRiddle_18 (by decide) ?_
      refine r_virtV (c_setUpN (o + 48) s l (H + 1) M e.2.2.2.2.length (nI (spB H cs e ||| 2 ^ H)) (nI 1) (lkO (csN cs H (r ++ [20009])) (H + 1)) (csN cs H (r ++ [20009])) un (LtO e.2.2.2.2) (I1 (l + 1)) (I1 (l + 2)) hSs hL2 hA.2.1 (by omega) (by omega) (by omega) (by omega) hcs1) lk_X0_38 mc_X6_setUp dX0_countRiddle_19 hA.2.1.1 (by decide) rfl rfl (Nat.le_of_ble_eq_true rfl) ?_
      refine r_aload_n dX0_countRiddle_22 rfl ?_
      refine r_getR dX0_countRiddle_23 fl_X0_12 rfl hA.1 (by unfold suP; rw [am_up_n _ _ (by omega)]; exact hA.2.2.2.2.1) ?_
      refine r_iconst (v := nI 2) dX0_countRiddle_26 (by decide) ?_
      refine r_virt (kc2 := 0) (ks2 := 0) (c_seekN (o + 48) s l (H + 1) M e.2.2.2.2.length (nI (spB H cs e ||| 2 ^ H)) (nI 1) (lkO (csN cs H (r ++ [20009])) (H + 1)) (csN cs H (r ++ [20009])) un (LtO e.2.2.2.2) (I1 (l + 1)) (I1 (l + 2)) 2 (bR H M un cs e (r ++ [20009])) hSs hL2 hA.2.1 (by omega) (by omega) (by omega) (by omega) hcs1 hM20.2 (by decide) (by decide) (fun k hk hb => by rw [← hsp1, b_and, Bool.and_eq_true] at hb; exact hb.1) (bR_c hH7 hM20.2 hrn hcl1)) lk_X0_42 mc_X6_seek dX0_countRiddle_27 hA.2.1.1 (by decide) rfl rfl (Nat.le_of_ble_eq_true rfl) (by decide) (by decide) (fun _ _ _ _ _ _ h => nomatch h.1) ?_
      rintro v4 n4 kd4 I4 J4 P4 ⟨h00, rfl, rfl, hqf, hsp4, hf9, hf10, hf5, hJ4⟩
      cases h00
      simp only [Option.toList, List.nil_append, List.cons_append]
      have hC4 := hC1.qf (Or.inr rfl) hqf
      have hB4 := hB1.qf (x := s) (by omega) hqf
      have hcl4 := hcl1.cg (I' := I4) (fun a a1 a2 => hqf.1 a (by omega) (by omega))
      have hn4 := hp1.1.cg (I' := I4) (fun a a1 a2 => hqf.1 a (by omega) (by omega))
      have e34 : I4 (o + 47) 3 = g := by rw [hqf.1 _ (by omega) (by omega)]; exact e31
      have e44 : I4 (o + 47) 4 = v := by rw [hqf.1 _ (by omega) (by omega)]; exact e41
      obtain ⟨-, -, -, ⟨-, hA4, -, -, -, -, -⟩, -, -, -, -, -⟩ := id hC4.1
      rw [show skv (bR H M un cs e (r ++ [20009])).2.2 (bR H M un cs e (r ++ [20009])).2.1 = nI (bR H M un cs e (r ++ [20009])).2.1.length from by unfold skv; rw [if_neg hg]]
      refine r_istore dX0_countRiddle_30 (by decide) ?_
      refine r_iload dX0_countRiddle_32 rfl ?_
      refine r_iconst (v := nI 1) dX0_countRiddle_34 (by decide) ?_
      refine r_icmp_ne (tgt := 67) dX0_countRiddle_35 (by decide) (fun _ => ?_) (fun hz => absurd hz (show ¬ _ from (by rw [nI_eq (by omega) (by decide)]; exact c1)))
      refine r_iload dX0_countRiddle_67 rfl ?_
      refine r_bipush (v := (-2)) dX0_countRiddle_69 (by decide) ?_
      refine r_icmp_eq (tgt := 78) dX0_countRiddle_71 (by decide) (fun hz => absurd hz (show ¬ _ from (nI_m2 (by omega)))) (fun _ => ?_)
      refine r_iconst (v := nI 1) dX0_countRiddle_74 (by decide) ?_
      refine r_goto (tgt := 79) dX0_countRiddle_75 (by decide) ?_
      refine r_zret rfl dX0_countRiddle_79 (by first | exact Or.inl rfl | exact Or.inr rfl | assumption) ?_
      rw [bSt_2 hg c1]
      exact ⟨rfl, rfl, rfl, hC4, hB4, hcl4, hn4, e34, e44⟩

