/-! RULES OF ARRAYS -/
section Rules
variable {Z : am_Z} {own : String} {cc : ByteArray} {nL : Nat} {ret : Option FieldType} {nm : String} {d kc ks pc : Nat} {post : am_Post} {ls : List (Option Value)} {st : List Value} {n : Nat} {kd : mK} {I : mI} {J : mJ} {P : mP}
theorem r_iald {a len j : Nat} {i : Int32} (hd : decode cc pc = .ok (.iaload, 1)) (hk : kd a = some (1, len)) (hi : vp_in i len) (hj : i.toNatClampNeg = j) (k : RuZ Z own cc nL ret nm d post kc ks (pc + 1) ls (.int (I a j) :: st) n kd I J P) : RuZ Z own cc nL ret nm d post kc ks pc ls (.int i :: .ref a :: st) n kd I J P := by
  intro p l e R s m args below meth c MC MS A D cA ad Qc XC free H locs cells slots lsC C r wf wl ws hl hc hs he
  subst hj
  exact va_iald (cx_x C) (cx_b C) (cx_K C) r.1 a 0 (by rw [am_w_at (wf.1 a _ hk), am_e_arr hk (by decide) (by decide)]) rfl hi hd (k p l e R s m args below meth c MC MS A D cA ad Qc XC free H locs cells slots lsC C r wf wl (ok_c am_ok_i (ok_t (ok_t ws))) hl hc hs he)
theorem r_bald {a len j : Nat} {i : Int32} (hd : decode cc pc = .ok (.baload, 1)) (hk : kd a = some (2, len)) (hi : vp_in i len) (hj : i.toNatClampNeg = j) (k : RuZ Z own cc nL ret nm d post kc ks (pc + 1) ls (.int (I a j) :: st) n kd I J P) : RuZ Z own cc nL ret nm d post kc ks pc ls (.int i :: .ref a :: st) n kd I J P := by
  intro p l e R s m args below meth c MC MS A D cA ad Qc XC free H locs cells slots lsC C r wf wl ws hl hc hs he
  subst hj
  exact va_bald (cx_x C) (cx_b C) (cx_K C) r.1 a 1 (by rw [am_w_at (wf.1 a _ hk), am_e_arr hk (by decide) (by decide)]) rfl hi hd (k p l e R s m args below meth c MC MS A D cA ad Qc XC free H locs cells slots lsC C r wf wl (ok_c am_ok_i (ok_t (ok_t ws))) hl hc hs he)
theorem r_zald {a len j : Nat} {i : Int32} (hd : decode cc pc = .ok (.baload, 1)) (hk : kd a = some (3, len)) (hi : vp_in i len) (hj : i.toNatClampNeg = j) (k : RuZ Z own cc nL ret nm d post kc ks (pc + 1) ls (.int (I a j) :: st) n kd I J P) : RuZ Z own cc nL ret nm d post kc ks pc ls (.int i :: .ref a :: st) n kd I J P := by
  intro p l e R s m args below meth c MC MS A D cA ad Qc XC free H locs cells slots lsC C r wf wl ws hl hc hs he
  subst hj
  exact va_zald (cx_x C) (cx_b C) (cx_K C) r.1 a 2 (by rw [am_w_at (wf.1 a _ hk), am_e_arr hk (by decide) (by decide)]) rfl hi hd (k p l e R s m args below meth c MC MS A D cA ad Qc XC free H locs cells slots lsC C r wf wl (ok_c am_ok_i (ok_t (ok_t ws))) hl hc hs he)
theorem r_lald {a len j : Nat} {i : Int32} (hd : decode cc pc = .ok (.laload, 1)) (hk : kd a = some (4, len)) (hi : vp_in i len) (hj : i.toNatClampNeg = j) (k : RuZ Z own cc nL ret nm d post kc ks (pc + 1) ls (.long (J a j) :: st) n kd I J P) : RuZ Z own cc nL ret nm d post kc ks pc ls (.int i :: .ref a :: st) n kd I J P := by
  intro p l e R s m args below meth c MC MS A D cA ad Qc XC free H locs cells slots lsC C r wf wl ws hl hc hs he
  subst hj
  exact va_lald (cx_x C) (cx_b C) (cx_K C) r.1 a 3 (by rw [am_w_at (wf.1 a _ hk), am_e_lng hk]) rfl hi hd (k p l e R s m args below meth c MC MS A D cA ad Qc XC free H locs cells slots lsC C r wf wl (ok_c am_ok_l (ok_t (ok_t ws))) hl hc hs he)
theorem r_iast {a len j : Nat} {i : Int32} {x : Int32} (hd : decode cc pc = .ok (.iastore, 1)) (hk : kd a = some (1, len)) (hi : vp_in i len) (hj : i.toNatClampNeg = j) (k : RuZ Z own cc nL ret nm d post kc ks (pc + 1) ls st n kd (va_up I a (va_up (I a) j x)) J P) : RuZ Z own cc nL ret nm d post kc ks pc ls (.int x :: .int i :: .ref a :: st) n kd I J P := by
  intro p l e R s m args below meth c MC MS A D cA ad Qc XC free H locs cells slots lsC C r wf wl ws hl hc hs he
  subst hj
  have hset : (am_w cA ad n kd I J P).set a (ad a, .inl (cA 1, len, .inl (va_up (I a) i.toNatClampNeg x))) = am_w cA ad n kd (va_up I a (va_up (I a) i.toNatClampNeg x)) J P := am_w_set (by rw [am_e_arr hk (by decide) (by decide), am_up_s]) (fun b hb => am_e_row (am_up_n I _ hb) rfl rfl)
  exact va_iast (cx_x C) (cx_b C) (cx_K C) r.1 r.2.1 r.2.2 a 0 (by rw [am_w_at (wf.1 a _ hk), am_e_arr hk (by decide) (by decide)]) rfl hi hd (fun H1 locs1 hP1 hD1 hS1 => k p l e R s m args below meth c MC MS A D cA ad Qc XC free H1 locs1 cells slots lsC C ⟨hset ▸ hP1, hset ▸ hD1, hS1⟩ wf wl (ok_t (ok_t (ok_t ws))) hl hc hs he)
theorem r_bast {a len j : Nat} {i : Int32} {x : Int32} (hd : decode cc pc = .ok (.bastore, 1)) (hk : kd a = some (2, len)) (hi : vp_in i len) (hj : i.toNatClampNeg = j) (k : RuZ Z own cc nL ret nm d post kc ks (pc + 1) ls st n kd (va_up I a (va_up (I a) j (vp_nar .byte x))) J P) : RuZ Z own cc nL ret nm d post kc ks pc ls (.int x :: .int i :: .ref a :: st) n kd I J P := by
  intro p l e R s m args below meth c MC MS A D cA ad Qc XC free H locs cells slots lsC C r wf wl ws hl hc hs he
  subst hj
  have hset : (am_w cA ad n kd I J P).set a (ad a, .inl (cA 2, len, .inl (va_up (I a) i.toNatClampNeg (vp_nar .byte x)))) = am_w cA ad n kd (va_up I a (va_up (I a) i.toNatClampNeg (vp_nar .byte x))) J P := am_w_set (by rw [am_e_arr hk (by decide) (by decide), am_up_s]) (fun b hb => am_e_row (am_up_n I _ hb) rfl rfl)
  exact va_bast (cx_x C) (cx_b C) (cx_K C) r.1 r.2.1 r.2.2 a 1 (by rw [am_w_at (wf.1 a _ hk), am_e_arr hk (by decide) (by decide)]) rfl hi hd (fun H1 locs1 hP1 hD1 hS1 => k p l e R s m args below meth c MC MS A D cA ad Qc XC free H1 locs1 cells slots lsC C ⟨hset ▸ hP1, hset ▸ hD1, hS1⟩ wf wl (ok_t (ok_t (ok_t ws))) hl hc hs he)
theorem r_zast {a len j : Nat} {i : Int32} {x : Int32} (hd : decode cc pc = .ok (.bastore, 1)) (hk : kd a = some (3, len)) (hi : vp_in i len) (hj : i.toNatClampNeg = j) (k : RuZ Z own cc nL ret nm d post kc ks (pc + 1) ls st n kd (va_up I a (va_up (I a) j (vp_nar .boolean x))) J P) : RuZ Z own cc nL ret nm d post kc ks pc ls (.int x :: .int i :: .ref a :: st) n kd I J P := by
  intro p l e R s m args below meth c MC MS A D cA ad Qc XC free H locs cells slots lsC C r wf wl ws hl hc hs he
  subst hj
  have hset : (am_w cA ad n kd I J P).set a (ad a, .inl (cA 3, len, .inl (va_up (I a) i.toNatClampNeg (vp_nar .boolean x)))) = am_w cA ad n kd (va_up I a (va_up (I a) i.toNatClampNeg (vp_nar .boolean x))) J P := am_w_set (by rw [am_e_arr hk (by decide) (by decide), am_up_s]) (fun b hb => am_e_row (am_up_n I _ hb) rfl rfl)
  exact va_zast (cx_x C) (cx_b C) (cx_K C) r.1 r.2.1 r.2.2 a 2 (by rw [am_w_at (wf.1 a _ hk), am_e_arr hk (by decide) (by decide)]) rfl hi hd (fun H1 locs1 hP1 hD1 hS1 => k p l e R s m args below meth c MC MS A D cA ad Qc XC free H1 locs1 cells slots lsC C ⟨hset ▸ hP1, hset ▸ hD1, hS1⟩ wf wl (ok_t (ok_t (ok_t ws))) hl hc hs he)
theorem r_last {a len j : Nat} {i : Int32} {x : Int64} (hd : decode cc pc = .ok (.lastore, 1)) (hk : kd a = some (4, len)) (hi : vp_in i len) (hj : i.toNatClampNeg = j) (k : RuZ Z own cc nL ret nm d post kc ks (pc + 1) ls st n kd I (va_up J a (va_up (J a) j x)) P) : RuZ Z own cc nL ret nm d post kc ks pc ls (.long x :: .int i :: .ref a :: st) n kd I J P := by
  intro p l e R s m args below meth c MC MS A D cA ad Qc XC free H locs cells slots lsC C r wf wl ws hl hc hs he
  subst hj
  have hset : (am_w cA ad n kd I J P).set a (ad a, .inl (cA 4, len, .inr (.inl (va_up (J a) i.toNatClampNeg x)))) = am_w cA ad n kd I (va_up J a (va_up (J a) i.toNatClampNeg x)) P := am_w_set (by rw [am_e_lng hk, am_up_s]) (fun b hb => am_e_row rfl (am_up_n J _ hb) rfl)
  exact va_last (cx_x C) (cx_b C) (cx_K C) r.1 r.2.1 r.2.2 a 3 (by rw [am_w_at (wf.1 a _ hk), am_e_lng hk]) rfl hi hd (fun H1 locs1 hP1 hD1 hS1 => k p l e R s m args below meth c MC MS A D cA ad Qc XC free H1 locs1 cells slots lsC C ⟨hset ▸ hP1, hset ▸ hD1, hS1⟩ wf wl (ok_t (ok_t (ok_t ws))) hl hc hs he)
theorem r_alen {a t len : Nat} (hd : decode cc pc = .ok (.arraylength, 1)) (hk : kd a = some (t, len)) (ht : t = 1 ∨ t = 2 ∨ t = 3 ∨ t = 4) (k : RuZ Z own cc nL ret nm d post kc ks (pc + 1) ls (.int (nI len) :: st) n kd I J P) : RuZ Z own cc nL ret nm d post kc ks pc ls (.ref a :: st) n kd I J P := by
  intro p l e R s m args below meth c MC MS A D cA ad Qc XC free H locs cells slots lsC C r wf wl ws hl hc hs he
  rcases ht with rfl | rfl | rfl | rfl
  · exact va_alen (x := (len, .inl (I a))) (v := nI len) (cx_x C) (cx_b C) (cx_K C) r.1 a 0 (by rw [am_w_at (wf.1 a _ hk), am_e_arr hk (by decide) (by decide)]) rfl rfl hd (k p l e R s m args below meth c MC MS A D cA ad Qc XC free H locs cells slots lsC C r wf wl (ok_c am_ok_i (ok_t ws)) hl hc hs he)
  · exact va_alen (x := (len, .inl (I a))) (v := nI len) (cx_x C) (cx_b C) (cx_K C) r.1 a 1 (by rw [am_w_at (wf.1 a _ hk), am_e_arr hk (by decide) (by decide)]) rfl rfl hd (k p l e R s m args below meth c MC MS A D cA ad Qc XC free H locs cells slots lsC C r wf wl (ok_c am_ok_i (ok_t ws)) hl hc hs he)
  · exact va_alen (x := (len, .inl (I a))) (v := nI len) (cx_x C) (cx_b C) (cx_K C) r.1 a 2 (by rw [am_w_at (wf.1 a _ hk), am_e_arr hk (by decide) (by decide)]) rfl rfl hd (k p l e R s m args below meth c MC MS A D cA ad Qc XC free H locs cells slots lsC C r wf wl (ok_c am_ok_i (ok_t ws)) hl hc hs he)
  · exact va_alen (x := (len, .inr (.inl (J a)))) (v := nI len) (cx_x C) (cx_b C) (cx_K C) r.1 a 3 (by rw [am_w_at (wf.1 a _ hk), am_e_lng hk]) rfl rfl hd (k p l e R s m args below meth c MC MS A D cA ad Qc XC free H locs cells slots lsC C r wf wl (ok_c am_ok_i (ok_t ws)) hl hc hs he)
theorem r_newInt {z : Int32} {N kc2 ks2 : Nat} (hd : decode cc pc = .ok (.newarray .int, 2)) (hz : ¬ z < 0) (hN : z.toNatClampNeg = N) (hb : N * componentBytes .int ≤ 536870912) (hn : n < 1000000) (hkc : kc2 + 1 ≤ kc) (hks : ks2 + N ≤ ks) (k : RuZ Z own cc nL ret nm d post kc2 ks2 (pc + 2) ls (.ref n :: st) (n + 1) (va_up kd n (some (1, N))) (va_up I n (fun _ => 0)) (va_up J n (fun _ => 0)) P) : RuZ Z own cc nL ret nm d post kc ks pc ls (.int z :: st) n kd I J P := by
  intro p l e R s m args below meth c MC MS A D cA ad Qc XC free H locs cells slots lsC C r wf wl ws hl hc hs he
  refine va_newa (atype := .int) (ty := .int) (D := D) (a0 := (N, .inl (fun _ => 0))) (cx_x C) (cx_b C) (cx_ts C _ a_ac1) rfl (cx_K C) r.1 r.2.1 r.2.2 (cx_A C) (fun _ => rfl) hz hN hb (by have := (cx_rm C).2.2.1; omega) (by have := (cx_rm C).2.2.2; omega) hd (fun q cA9 H1 hK1 hP1 hD1 hS1 => ?_)
  have hcA : cA9 = cA 1 := Option.some.inj (((hK1.2 4 _ rfl).2).symm.trans ((cx_K C).2 0 _ rfl).2)
  subst hcA
  have hpush := am_w_push (cA := cA) (ad := ad) (q := q) (kd := kd) (kd' := va_up kd n (some (1, N))) (I := I) (I' := va_up I n (fun _ => 0)) (J := J) (J' := va_up J n (fun _ => 0)) (P := P) (P' := P) hn wf.2.1 (fun a h => am_up_n kd _ (Nat.ne_of_lt h)) (fun a h => am_up_n I _ (Nat.ne_of_lt h)) (fun a h => am_up_n J _ (Nat.ne_of_lt h)) (fun _ _ => rfl) (E := .inl (cA 1, N, .inl (fun _ => 0))) (by rw [am_e_arr (am_up_s kd n _) (by decide) (by decide), am_up_s])
  rw [hpush] at hP1 hD1
  have had := am_ad_new (ad := ad) (q := q) hn
  have wf2 : am_WF (n + 1) (va_up kd n (some (1, N))) P := ⟨fun a x h => by
      by_cases hq : a = n
      · omega
      · rw [am_up_n kd _ hq] at h; exact Nat.lt_succ_of_lt (wf.1 a x h), fun a j b h => Nat.lt_succ_of_lt (wf.2.1 a j b h), hn⟩
  have hst : (st.map (am_v ad)) = st.map (am_v (va_up ad n q)) := (am_vs_eq had (ok_t ws)).symm
  have hq : (Value.ref q :: st.map (am_v ad)) = (Value.ref n :: st).map (am_v (va_up ad n q)) := by rw [hst]; show _ = Value.ref (va_up ad n q n) :: _; rw [am_up_s]
  show W p l e R s m args below meth c H1 locs (cells + 1) (slots + N) (vx_MQ below Qc XC args s MC MS free) (F0 m (pc + 2) lsC (Value.ref q :: st.map (am_v ad)))
  rw [hq]
  exact k p l e R s m args below meth c MC MS A D cA (va_up ad n q) Qc XC free H1 locs (cells + 1) (slots + N) lsC C ⟨hP1, hD1, hS1⟩ wf2 (fun v hv => (wl v hv).mono (Nat.le_succ n)) (ok_c (fun a e => by cases e; exact Or.inl (Nat.lt_succ_self n)) (fun v hv => (ok_t ws v hv).mono (Nat.le_succ n))) ⟨hl.1, hl.2.1, fun i v hv => by rw [am_v_eq had (wl v (List.mem_of_getElem? hv))]; exact hl.2.2 i v hv⟩ (by omega) (by omega) (he.on (Nat.le_succ n) had)
theorem r_newByte {z : Int32} {N kc2 ks2 : Nat} (hd : decode cc pc = .ok (.newarray .byte, 2)) (hz : ¬ z < 0) (hN : z.toNatClampNeg = N) (hb : N * componentBytes .byte ≤ 536870912) (hn : n < 1000000) (hkc : kc2 + 1 ≤ kc) (hks : ks2 + N ≤ ks) (k : RuZ Z own cc nL ret nm d post kc2 ks2 (pc + 2) ls (.ref n :: st) (n + 1) (va_up kd n (some (2, N))) (va_up I n (fun _ => 0)) (va_up J n (fun _ => 0)) P) : RuZ Z own cc nL ret nm d post kc ks pc ls (.int z :: st) n kd I J P := by
  intro p l e R s m args below meth c MC MS A D cA ad Qc XC free H locs cells slots lsC C r wf wl ws hl hc hs he
  refine va_newa (atype := .byte) (ty := .byte) (D := D) (a0 := (N, .inl (fun _ => 0))) (cx_x C) (cx_b C) (cx_ts C _ a_ac2) rfl (cx_K C) r.1 r.2.1 r.2.2 (cx_A C) (fun _ => rfl) hz hN hb (by have := (cx_rm C).2.2.1; omega) (by have := (cx_rm C).2.2.2; omega) hd (fun q cA9 H1 hK1 hP1 hD1 hS1 => ?_)
  have hcA : cA9 = cA 2 := Option.some.inj (((hK1.2 4 _ rfl).2).symm.trans ((cx_K C).2 1 _ rfl).2)
  subst hcA
  have hpush := am_w_push (cA := cA) (ad := ad) (q := q) (kd := kd) (kd' := va_up kd n (some (2, N))) (I := I) (I' := va_up I n (fun _ => 0)) (J := J) (J' := va_up J n (fun _ => 0)) (P := P) (P' := P) hn wf.2.1 (fun a h => am_up_n kd _ (Nat.ne_of_lt h)) (fun a h => am_up_n I _ (Nat.ne_of_lt h)) (fun a h => am_up_n J _ (Nat.ne_of_lt h)) (fun _ _ => rfl) (E := .inl (cA 2, N, .inl (fun _ => 0))) (by rw [am_e_arr (am_up_s kd n _) (by decide) (by decide), am_up_s])
  rw [hpush] at hP1 hD1
  have had := am_ad_new (ad := ad) (q := q) hn
  have wf2 : am_WF (n + 1) (va_up kd n (some (2, N))) P := ⟨fun a x h => by
      by_cases hq : a = n
      · omega
      · rw [am_up_n kd _ hq] at h; exact Nat.lt_succ_of_lt (wf.1 a x h), fun a j b h => Nat.lt_succ_of_lt (wf.2.1 a j b h), hn⟩
  have hst : (st.map (am_v ad)) = st.map (am_v (va_up ad n q)) := (am_vs_eq had (ok_t ws)).symm
  have hq : (Value.ref q :: st.map (am_v ad)) = (Value.ref n :: st).map (am_v (va_up ad n q)) := by rw [hst]; show _ = Value.ref (va_up ad n q n) :: _; rw [am_up_s]
  show W p l e R s m args below meth c H1 locs (cells + 1) (slots + N) (vx_MQ below Qc XC args s MC MS free) (F0 m (pc + 2) lsC (Value.ref q :: st.map (am_v ad)))
  rw [hq]
  exact k p l e R s m args below meth c MC MS A D cA (va_up ad n q) Qc XC free H1 locs (cells + 1) (slots + N) lsC C ⟨hP1, hD1, hS1⟩ wf2 (fun v hv => (wl v hv).mono (Nat.le_succ n)) (ok_c (fun a e => by cases e; exact Or.inl (Nat.lt_succ_self n)) (fun v hv => (ok_t ws v hv).mono (Nat.le_succ n))) ⟨hl.1, hl.2.1, fun i v hv => by rw [am_v_eq had (wl v (List.mem_of_getElem? hv))]; exact hl.2.2 i v hv⟩ (by omega) (by omega) (he.on (Nat.le_succ n) had)
theorem r_newBoolean {z : Int32} {N kc2 ks2 : Nat} (hd : decode cc pc = .ok (.newarray .boolean, 2)) (hz : ¬ z < 0) (hN : z.toNatClampNeg = N) (hb : N * componentBytes .boolean ≤ 536870912) (hn : n < 1000000) (hkc : kc2 + 1 ≤ kc) (hks : ks2 + N ≤ ks) (k : RuZ Z own cc nL ret nm d post kc2 ks2 (pc + 2) ls (.ref n :: st) (n + 1) (va_up kd n (some (3, N))) (va_up I n (fun _ => 0)) (va_up J n (fun _ => 0)) P) : RuZ Z own cc nL ret nm d post kc ks pc ls (.int z :: st) n kd I J P := by
  intro p l e R s m args below meth c MC MS A D cA ad Qc XC free H locs cells slots lsC C r wf wl ws hl hc hs he
  refine va_newa (atype := .boolean) (ty := .boolean) (D := D) (a0 := (N, .inl (fun _ => 0))) (cx_x C) (cx_b C) (cx_ts C _ a_ac3) rfl (cx_K C) r.1 r.2.1 r.2.2 (cx_A C) (fun _ => rfl) hz hN hb (by have := (cx_rm C).2.2.1; omega) (by have := (cx_rm C).2.2.2; omega) hd (fun q cA9 H1 hK1 hP1 hD1 hS1 => ?_)
  have hcA : cA9 = cA 3 := Option.some.inj (((hK1.2 4 _ rfl).2).symm.trans ((cx_K C).2 2 _ rfl).2)
  subst hcA
  have hpush := am_w_push (cA := cA) (ad := ad) (q := q) (kd := kd) (kd' := va_up kd n (some (3, N))) (I := I) (I' := va_up I n (fun _ => 0)) (J := J) (J' := va_up J n (fun _ => 0)) (P := P) (P' := P) hn wf.2.1 (fun a h => am_up_n kd _ (Nat.ne_of_lt h)) (fun a h => am_up_n I _ (Nat.ne_of_lt h)) (fun a h => am_up_n J _ (Nat.ne_of_lt h)) (fun _ _ => rfl) (E := .inl (cA 3, N, .inl (fun _ => 0))) (by rw [am_e_arr (am_up_s kd n _) (by decide) (by decide), am_up_s])
  rw [hpush] at hP1 hD1
  have had := am_ad_new (ad := ad) (q := q) hn
  have wf2 : am_WF (n + 1) (va_up kd n (some (3, N))) P := ⟨fun a x h => by
      by_cases hq : a = n
      · omega
      · rw [am_up_n kd _ hq] at h; exact Nat.lt_succ_of_lt (wf.1 a x h), fun a j b h => Nat.lt_succ_of_lt (wf.2.1 a j b h), hn⟩
  have hst : (st.map (am_v ad)) = st.map (am_v (va_up ad n q)) := (am_vs_eq had (ok_t ws)).symm
  have hq : (Value.ref q :: st.map (am_v ad)) = (Value.ref n :: st).map (am_v (va_up ad n q)) := by rw [hst]; show _ = Value.ref (va_up ad n q n) :: _; rw [am_up_s]
  show W p l e R s m args below meth c H1 locs (cells + 1) (slots + N) (vx_MQ below Qc XC args s MC MS free) (F0 m (pc + 2) lsC (Value.ref q :: st.map (am_v ad)))
  rw [hq]
  exact k p l e R s m args below meth c MC MS A D cA (va_up ad n q) Qc XC free H1 locs (cells + 1) (slots + N) lsC C ⟨hP1, hD1, hS1⟩ wf2 (fun v hv => (wl v hv).mono (Nat.le_succ n)) (ok_c (fun a e => by cases e; exact Or.inl (Nat.lt_succ_self n)) (fun v hv => (ok_t ws v hv).mono (Nat.le_succ n))) ⟨hl.1, hl.2.1, fun i v hv => by rw [am_v_eq had (wl v (List.mem_of_getElem? hv))]; exact hl.2.2 i v hv⟩ (by omega) (by omega) (he.on (Nat.le_succ n) had)
theorem r_newLong {z : Int32} {N kc2 ks2 : Nat} (hd : decode cc pc = .ok (.newarray .long, 2)) (hz : ¬ z < 0) (hN : z.toNatClampNeg = N) (hb : N * componentBytes .long ≤ 536870912) (hn : n < 1000000) (hkc : kc2 + 1 ≤ kc) (hks : ks2 + N ≤ ks) (k : RuZ Z own cc nL ret nm d post kc2 ks2 (pc + 2) ls (.ref n :: st) (n + 1) (va_up kd n (some (4, N))) (va_up I n (fun _ => 0)) (va_up J n (fun _ => 0)) P) : RuZ Z own cc nL ret nm d post kc ks pc ls (.int z :: st) n kd I J P := by
  intro p l e R s m args below meth c MC MS A D cA ad Qc XC free H locs cells slots lsC C r wf wl ws hl hc hs he
  refine va_newa (atype := .long) (ty := .long) (D := D) (a0 := (N, .inr (.inl (fun _ => 0)))) (cx_x C) (cx_b C) (cx_ts C _ a_ac4) rfl (cx_K C) r.1 r.2.1 r.2.2 (cx_A C) (fun _ => rfl) hz hN hb (by have := (cx_rm C).2.2.1; omega) (by have := (cx_rm C).2.2.2; omega) hd (fun q cA9 H1 hK1 hP1 hD1 hS1 => ?_)
  have hcA : cA9 = cA 4 := Option.some.inj (((hK1.2 4 _ rfl).2).symm.trans ((cx_K C).2 3 _ rfl).2)
  subst hcA
  have hpush := am_w_push (cA := cA) (ad := ad) (q := q) (kd := kd) (kd' := va_up kd n (some (4, N))) (I := I) (I' := va_up I n (fun _ => 0)) (J := J) (J' := va_up J n (fun _ => 0)) (P := P) (P' := P) hn wf.2.1 (fun a h => am_up_n kd _ (Nat.ne_of_lt h)) (fun a h => am_up_n I _ (Nat.ne_of_lt h)) (fun a h => am_up_n J _ (Nat.ne_of_lt h)) (fun _ _ => rfl) (E := .inl (cA 4, N, .inr (.inl (fun _ => 0)))) (by rw [am_e_lng (am_up_s kd n _), am_up_s])
  rw [hpush] at hP1 hD1
  have had := am_ad_new (ad := ad) (q := q) hn
  have wf2 : am_WF (n + 1) (va_up kd n (some (4, N))) P := ⟨fun a x h => by
      by_cases hq : a = n
      · omega
      · rw [am_up_n kd _ hq] at h; exact Nat.lt_succ_of_lt (wf.1 a x h), fun a j b h => Nat.lt_succ_of_lt (wf.2.1 a j b h), hn⟩
  have hst : (st.map (am_v ad)) = st.map (am_v (va_up ad n q)) := (am_vs_eq had (ok_t ws)).symm
  have hq : (Value.ref q :: st.map (am_v ad)) = (Value.ref n :: st).map (am_v (va_up ad n q)) := by rw [hst]; show _ = Value.ref (va_up ad n q n) :: _; rw [am_up_s]
  show W p l e R s m args below meth c H1 locs (cells + 1) (slots + N) (vx_MQ below Qc XC args s MC MS free) (F0 m (pc + 2) lsC (Value.ref q :: st.map (am_v ad)))
  rw [hq]
  exact k p l e R s m args below meth c MC MS A D cA (va_up ad n q) Qc XC free H1 locs (cells + 1) (slots + N) lsC C ⟨hP1, hD1, hS1⟩ wf2 (fun v hv => (wl v hv).mono (Nat.le_succ n)) (ok_c (fun a e => by cases e; exact Or.inl (Nat.lt_succ_self n)) (fun v hv => (ok_t ws v hv).mono (Nat.le_succ n))) ⟨hl.1, hl.2.1, fun i v hv => by rw [am_v_eq had (wl v (List.mem_of_getElem? hv))]; exact hl.2.2 i v hv⟩ (by omega) (by omega) (he.on (Nat.le_succ n) had)
theorem am_f_new {ad : Nat → Nat} {I : mI} {J : mJ} {P : mP} {n ci : Nat} (h : ci < 11) : ∀ j, j < aN ci → defaultValue (aY ci j) = vp_V (am_fs ad (va_up I n (fun _ => 0)) (va_up J n (fun _ => 0)) (va_up P n (fun _ => none)) ci n) j := by
  intro j hj
  have h1 : vp_V (am_fs ad (va_up I n (fun _ => 0)) (va_up J n (fun _ => 0)) (va_up P n (fun _ => none)) ci n) j = am_f ad (va_up I n (fun _ => 0)) (va_up J n (fun _ => 0)) (va_up P n (fun _ => none)) ci n j := by
    show List.getD _ j Value.null = _
    rw [List.getD_eq_getElem?_getD, am_fs_at hj]; rfl
  rw [h1]
  have h2 := a_tok ci h j hj
  unfold am_f
  rw [am_up_s, am_up_s, am_up_s]
  cases hy : aY ci j <;> first | rfl | (rw [hy] at h2; cases h2)
theorem r_new {idx ci kc2 ks2 : Nat} (hd : decode cc pc = .ok (.new idx, 3)) (hci : ci < 11) (hcl : Cond.classLink own idx (aR ci) ∈ gw) (hin : Cond.instantiable (aR ci) (aN ci) ∈ gw) (hn : n < 1000000) (hkc : kc2 + 1 ≤ kc) (hks : ks2 + aN ci ≤ ks) (k : RuZ Z own cc nL ret nm d post kc2 ks2 (pc + 3) ls (.ref n :: st) (n + 1) (va_up kd n (some (0, ci))) (va_up I n (fun _ => 0)) (va_up J n (fun _ => 0)) (va_up P n (fun _ => none))) : RuZ Z own cc nL ret nm d post kc ks pc ls st n kd I J P := by
  intro p l e R s m args below meth c MC MS A D cA ad Qc XC free H locs cells slots lsC C r wf wl ws hl hc hs he
  have had : ∀ q, ∀ a, a < n ∨ 1000000 ≤ a → va_up ad n q a = ad a := fun q => am_ad_new (ad := ad) (q := q) hn
  have hfs : ∀ q, am_fs (va_up ad n q) (va_up I n (fun _ => 0)) (va_up J n (fun _ => 0)) (va_up P n (fun _ => none)) ci n = am_fs ad (va_up I n (fun _ => 0)) (va_up J n (fun _ => 0)) (va_up P n (fun _ => none)) ci n := fun q => by
    unfold am_fs
    apply List.map_congr_left
    intro j _
    unfold am_f
    rw [am_up_s, am_up_s, am_up_s]; rfl
  refine va_new (D := D) (ci := ci) (C := aR ci) (T := aT ci) (N := aN ci) (fs := am_fs ad (va_up I n (fun _ => 0)) (va_up J n (fun _ => 0)) (va_up P n (fun _ => none)) ci n) (cx_x C) (cx_b C) (cx_ts C) (a_in ci hci) (aY ci) (a_ty ci hci) (cx_own C) (cx_ts C _ hcl) (cx_ts C _ hin) (cx_ts C _ (a_ini ci hci)) (cx_K C) r.1 r.2.1 r.2.2 (cx_A C) (a_cl ci hci) (am_f_new hci) (by have := (cx_rm C).2.2.1; omega) (by have := (cx_rm C).2.2.2; omega) hd (fun q H1 hP1 hD1 hS1 => ?_)
  have hpush := am_w_push (cA := cA) (ad := ad) (q := q) (kd := kd) (kd' := va_up kd n (some (0, ci))) (I := I) (I' := va_up I n (fun _ => 0)) (J := J) (J' := va_up J n (fun _ => 0)) (P := P) (P' := va_up P n (fun _ => none)) hn wf.2.1 (fun a h => am_up_n kd _ (Nat.ne_of_lt h)) (fun a h => am_up_n I _ (Nat.ne_of_lt h)) (fun a h => am_up_n J _ (Nat.ne_of_lt h)) (fun a h => am_up_n P _ (Nat.ne_of_lt h)) (E := .inr (ci, am_fs ad (va_up I n (fun _ => 0)) (va_up J n (fun _ => 0)) (va_up P n (fun _ => none)) ci n)) (by rw [am_e_obj (am_up_s kd n _), hfs q])
  rw [hpush] at hP1 hD1
  have wf2 : am_WF (n + 1) (va_up kd n (some (0, ci))) (va_up P n (fun _ => none)) := ⟨fun a x h => by
      by_cases hq : a = n
      · omega
      · rw [am_up_n kd _ hq] at h; exact Nat.lt_succ_of_lt (wf.1 a x h), fun a j b h => by
      by_cases hq : a = n
      · subst hq; rw [am_up_s] at h; cases h
      · rw [am_up_n P _ hq] at h; exact Nat.lt_succ_of_lt (wf.2.1 a j b h), hn⟩
  have hst : (st.map (am_v ad)) = st.map (am_v (va_up ad n q)) := (am_vs_eq (had q) ws).symm
  have hq : (Value.ref q :: st.map (am_v ad)) = (Value.ref n :: st).map (am_v (va_up ad n q)) := by rw [hst]; show _ = Value.ref (va_up ad n q n) :: _; rw [am_up_s]
  rw [hq]
  exact k p l e R s m args below meth c MC MS A D cA (va_up ad n q) Qc XC free H1 locs (cells + 1) (slots + aN ci) lsC C ⟨hP1, hD1, hS1⟩ wf2 (fun v hv => (wl v hv).mono (Nat.le_succ n)) (ok_c (fun a e => by cases e; exact Or.inl (Nat.lt_succ_self n)) (fun v hv => (ws v hv).mono (Nat.le_succ n))) ⟨hl.1, hl.2.1, fun i v hv => by rw [am_v_eq (had q) (wl v (List.mem_of_getElem? hv))]; exact hl.2.2 i v hv⟩ (by omega) (by omega) (he.on (Nat.le_succ n) (had q))
end Rules
