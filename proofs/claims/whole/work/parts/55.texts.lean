/-! TEXTS, the JDK's statics, the script: rules; String's methods -/
def sC (i j : Nat) : Int32 := (sB.getD i []).getD j 0
def sN (i : Nat) : Nat := sL.getD i 0
def LvK (own : String) (idx : Nat) (y : MethodName) (np : Nat) : Prop := Cond.methodLink own idx y ∈ gw ∧ Cond.instanceMethod y ∈ gw ∧ Cond.selects "java/lang/String" y y ∈ gw ∧ (parseMethodDescriptor y.desc).map (fun d => d.parameters.length) = some np
theorem am_ok_s {n i : Nat} : am_ok n (.ref (1000000 + i)) := fun a q => by cases q; exact Or.inr (Nat.le_add_right 1000000 i)
section Rules
variable {Z : am_Z} {K : (Nat → ClassId) → Prop} {own : String} {cc : ByteArray} {nL : Nat} {ret : Option FieldType} {nm : String} {d kc ks pc : Nat} {post : am_Post} {ls : List (Option Value)} {st : List Value} {n : Nat} {kd : mK} {I : mI} {J : mJ} {P : mP}
theorem r_ldcS {z i : Nat} {tx : String} (hd : decode cc pc = .ok (.ldc z, 2)) (hm : (own, z, tx, i) ∈ sR) (hi : i < 100) (k : RuZ Z own cc nL ret nm d post kc ks (pc + 2) ls (.ref (1000000 + i) :: st) n kd I J P) : RuZ Z own cc nL ret nm d post kc ks pc ls (st) n kd I J P := by
  intro p l e R s m args below meth c MC MS A D cA ad Qc XC free H locs cells slots lsC C r wf wl ws hl hc hs he
  have e9 : ad (1000000 + i) = cA (100 + i) := he.1.2 (i) (by omega)
  have hk := k p l e R s m args below meth c MC MS A D cA ad Qc XC free H locs cells slots lsC C r wf wl (ok_c am_ok_s ws) hl hc hs he
  rw [List.map_cons, show am_v ad (.ref (1000000 + i)) = .ref (cA (100 + i)) from congrArg Value.ref e9] at hk
  exact va_ldcS (cx_x C) (cx_b C) (cx_own C) ((cx_S C).2.2.2.1 _ hm) hd hk
theorem r_getKv {i : Nat} (ho : own = "java/lang/String") (hd : decode cc pc = .ok (.getfield 9, 3)) (hi : i < 21) (k : RuZ Z own cc nL ret nm d post kc ks (pc + 3) ls (.ref (1000100 + i) :: st) n kd I J P) : RuZ Z own cc nL ret nm d post kc ks pc ls (.ref (1000000 + i) :: st) n kd I J P := by
  intro p l e R s m args below meth c MC MS A D cA ad Qc XC free H locs cells slots lsC C r wf wl ws hl hc hs he
  have e9 : ad (1000000 + i) = cA (100 + i) := he.1.2 (i) (by omega)
  have e8 : ad (1000000 + (100 + i)) = cA (100 + (100 + i)) := he.1.2 ((100 + i)) (by omega)
  have hk := k p l e R s m args below meth c MC MS A D cA ad Qc XC free H locs cells slots lsC C r wf wl (ok_c (fun a q => by cases q; exact Or.inr (Nat.le_trans (by decide) (Nat.le_add_right 1000100 i))) (ok_t ws)) hl hc hs he
  rw [List.map_cons, show am_v ad (.ref (1000100 + i)) = .ref (cA (200 + i)) from congrArg Value.ref (by rw [show 1000100 + i = 1000000 + (100 + i) by omega, e8, show 100 + (100 + i) = 200 + i by omega])] at hk
  rw [List.map_cons, show am_v ad (.ref (1000000 + i)) = .ref (cA (100 + i)) from congrArg Value.ref e9]
  subst ho
  exact vk_getf (cx_x C) (cx_b C) ((cx_S C).2.2.1.1 i hi).2.2.1 r.2.2 (cx_own C) (cx_ts C _ (gt9 133 rfl rfl)) (fun _ h => h) hd hk
theorem r_getKc {i : Nat} (ho : own = "java/lang/String") (hd : decode cc pc = .ok (.getfield 15, 3)) (hi : i < 21) (k : RuZ Z own cc nL ret nm d post kc ks (pc + 3) ls (.int (nI 0) :: st) n kd I J P) : RuZ Z own cc nL ret nm d post kc ks pc ls (.ref (1000000 + i) :: st) n kd I J P := by
  intro p l e R s m args below meth c MC MS A D cA ad Qc XC free H locs cells slots lsC C r wf wl ws hl hc hs he
  have e9 : ad (1000000 + i) = cA (100 + i) := he.1.2 (i) (by omega)
  have hk := k p l e R s m args below meth c MC MS A D cA ad Qc XC free H locs cells slots lsC C r wf wl (ok_c am_ok_i (ok_t ws)) hl hc hs he
  rw [List.map_cons, show am_v ad (.ref (1000000 + i)) = .ref (cA (100 + i)) from congrArg Value.ref e9]
  subst ho
  exact vk_getf (cx_x C) (cx_b C) ((cx_S C).2.2.1.1 i hi).2.1 r.2.2 (cx_own C) (cx_ts C _ (gt9 134 rfl rfl)) (fun _ h => h) hd hk
theorem r_alenK {i : Nat} (hd : decode cc pc = .ok (.arraylength, 1)) (hi : i < 21) (k : RuZ Z own cc nL ret nm d post kc ks (pc + 1) ls (.int (nI (sN i)) :: st) n kd I J P) : RuZ Z own cc nL ret nm d post kc ks pc ls (.ref (1000100 + i) :: st) n kd I J P := by
  intro p l e R s m args below meth c MC MS A D cA ad Qc XC free H locs cells slots lsC C r wf wl ws hl hc hs he
  have e8 : ad (1000100 + i) = cA (200 + i) := by
    have := he.1.2 (100 + i) (by omega)
    rw [show 1000000 + (100 + i) = 1000100 + i by omega, show 100 + (100 + i) = 200 + i by omega] at this
    exact this
  rw [List.map_cons, show am_v ad (.ref (1000100 + i)) = .ref (cA (200 + i)) from congrArg Value.ref e8]
  exact va_tlen (cx_x C) (cx_b C) ((cx_S C).2.2.1.1 i hi).2.2.2 r.2.2 (v := nI (sN i)) rfl hd (k p l e R s m args below meth c MC MS A D cA ad Qc XC free H locs cells slots lsC C r wf wl (ok_c am_ok_i (ok_t ws)) hl hc hs he)
theorem r_baldK {i j : Nat} {x : Int32} (hd : decode cc pc = .ok (.baload, 1)) (hi : i < 21) (hin : vp_in x (sN i)) (hj : x.toNatClampNeg = j) (k : RuZ Z own cc nL ret nm d post kc ks (pc + 1) ls (.int (sC i j) :: st) n kd I J P) : RuZ Z own cc nL ret nm d post kc ks pc ls (.int x :: .ref (1000100 + i) :: st) n kd I J P := by
  intro p l e R s m args below meth c MC MS A D cA ad Qc XC free H locs cells slots lsC C r wf wl ws hl hc hs he
  have e8 : ad (1000100 + i) = cA (200 + i) := by
    have := he.1.2 (100 + i) (by omega)
    rw [show 1000000 + (100 + i) = 1000100 + i by omega, show 100 + (100 + i) = 200 + i by omega] at this
    exact this
  rw [List.map_cons, List.map_cons, show am_v ad (.ref (1000100 + i)) = .ref (cA (200 + i)) from congrArg Value.ref e8]
  exact va_tb (cx_x C) (cx_b C) ((cx_S C).2.2.1.1 i hi).2.2.2 r.2.2 hin (v := .int (sC i j)) (by rw [hj]; rfl) hd (k p l e R s m args below meth c MC MS A D cA ad Qc XC free H locs cells slots lsC C r wf wl (ok_c am_ok_i (ok_t (ok_t ws))) hl hc hs he)
theorem r_getsC (ho : own = "java/lang/String") (hd : decode cc pc = .ok (.getstatic 38, 3)) (k : RuZ Z own cc nL ret nm d post kc ks (pc + 3) ls (.int (nI 1) :: st) n kd I J P) : RuZ Z own cc nL ret nm d post kc ks pc ls (st) n kd I J P := by
  intro p l e R s m args below meth c MC MS A D cA ad Qc XC free H locs cells slots lsC C r wf wl ws hl hc hs he
  subst ho
  exact va_gets (cx_x C) (cx_b C) (cx_S C).2.2.2.2.1 r.2.2 (cx_own C) (cx_ts C _ (gt3 217 rfl rfl)) (fun _ h => h) hd (k p l e R s m args below meth c MC MS A D cA ad Qc XC free H locs cells slots lsC C r wf wl (ok_c am_ok_i ws) hl hc hs he)
theorem r_getsF (ho : own = "java/lang/String") (hd : decode cc pc = .ok (.getstatic 1053, 3)) (k0 : RuZ Z own cc nL ret nm d post kc ks (pc + 3) ls (.null :: st) n kd I J P) (k : RuZ Z own cc nL ret nm d post kc ks (pc + 3) ls (.ref (1000000 + 202) :: st) n kd I J P) : RuZ Z own cc nL ret nm d post kc ks pc ls (st) n kd I J P := by
  intro p l e R s m args below meth c MC MS A D cA ad Qc XC free H locs cells slots lsC C r wf wl ws hl hc hs he
  subst ho
  have e9 : ad (1000000 + 202) = cA (100 + 202) := he.1.2 (202) (by omega)
  rcases (cx_S C).2.2.2.2.2.1 with h0 | h0
  · exact va_gets (cx_x C) (cx_b C) h0 r.2.2 (cx_own C) (cx_ts C _ (gt3 233 rfl rfl)) (fun _ h => h) hd (k0 p l e R s m args below meth c MC MS A D cA ad Qc XC free H locs cells slots lsC C r wf wl (ok_c am_ok_n ws) hl hc hs he)
  · have hk := k p l e R s m args below meth c MC MS A D cA ad Qc XC free H locs cells slots lsC C r wf wl (ok_c am_ok_s ws) hl hc hs he
    rw [List.map_cons, show am_v ad (.ref (1000000 + 202)) = .ref (cA 302) from congrArg Value.ref e9] at hk
    exact va_gets (cx_x C) (cx_b C) h0 r.2.2 (cx_own C) (cx_ts C _ (gt3 233 rfl rfl)) (fun _ h => h) hd hk
theorem r_slen {L : Nat} {xs : Nat → Int32} (hZ : ∀ cA : Nat → ClassId, Z.1 cA → cA 301 = L ∧ ∀ j, nI (cA (310 + j)) = xs j) (hd : decode cc pc = .ok (.arraylength, 1)) (k : RuZ Z own cc nL ret nm d post kc ks (pc + 1) ls (.int (nI L) :: st) n kd I J P) : RuZ Z own cc nL ret nm d post kc ks pc ls (.ref 1000200 :: st) n kd I J P := by
  intro p l e R s m args below meth c MC MS A D cA ad Qc XC free H locs cells slots lsC C r wf wl ws hl hc hs he
  have e8 : ad (1000000 + 200) = cA (100 + 200) := he.1.2 200 (by omega)
  rw [List.map_cons, show am_v ad (.ref 1000200) = .ref (cA 300) from congrArg Value.ref e8]
  obtain ⟨z1, z2⟩ := hZ cA (cx_Z C)
  exact va_tlen (cx_x C) (cx_b C) (cx_S C).2.2.2.2.2.2 r.2.2 (v := nI L) (by rw [z1]; rfl) hd (k p l e R s m args below meth c MC MS A D cA ad Qc XC free H locs cells slots lsC C r wf wl (ok_c am_ok_i (ok_t ws)) hl hc hs he)
theorem r_sld {L j : Nat} {xs : Nat → Int32} {x : Int32} (hZ : ∀ cA : Nat → ClassId, Z.1 cA → cA 301 = L ∧ ∀ j, nI (cA (310 + j)) = xs j) (hd : decode cc pc = .ok (.iaload, 1)) (hin : vp_in x L) (hj : x.toNatClampNeg = j) (k : RuZ Z own cc nL ret nm d post kc ks (pc + 1) ls (.int (xs j) :: st) n kd I J P) : RuZ Z own cc nL ret nm d post kc ks pc ls (.int x :: .ref 1000200 :: st) n kd I J P := by
  intro p l e R s m args below meth c MC MS A D cA ad Qc XC free H locs cells slots lsC C r wf wl ws hl hc hs he
  have e8 : ad (1000000 + 200) = cA (100 + 200) := he.1.2 200 (by omega)
  rw [List.map_cons, List.map_cons, show am_v ad (.ref 1000200) = .ref (cA 300) from congrArg Value.ref e8]
  obtain ⟨z1, z2⟩ := hZ cA (cx_Z C)
  exact va_ti (cx_x C) (cx_b C) (cx_S C).2.2.2.2.2.2 r.2.2 (i := x) (by rw [z1]; exact hin) (v := .int (xs j)) (by show Value.int (nI (cA (310 + x.toNatClampNeg))) = _; rw [z2, hj]) hd (k p l e R s m args below meth c MC MS A D cA ad Qc XC free H locs cells slots lsC C r wf wl (ok_c am_ok_i (ok_t (ok_t ws))) hl hc hs he)
theorem r_nret {x : Int32} {ty : FieldType} (hr : ret = some ty) (hd : decode cc pc = .ok (.ireturn, 1)) (hx : narrow ty (.int x) = .int x) (h : post (.inl (some (.int x))) n kd I J P) : RuZ Z own cc nL ret nm d post kc ks pc ls [.int x] n kd I J P := by
  intro p l e R s m args below meth c MC MS A D cA ad Qc XC free H locs cells slots lsC C r wf wl ws hl hc hs he
  subst hr
  refine W.widen (Nat.le_trans (Nat.le_add_right _ _) hc) (Nat.le_trans (Nat.le_add_right _ _) hs) (vx_ret ?_)
  exact W.zret (cx_x C) (cx_b C) (cx_r C) hx (fun t ht hW => he.2.1 _ n kd I J P ad H locs h r wf (fun w e => by cases e; exact am_ok_i) (Nat.le_refl _) (fun _ _ => rfl) t ht hW) (fun q hq => he.1.1 _ (r.2.2.2.2 q hq)) hd (cx_lk C)
theorem r_virtK {y : MethodName} {cc2 : ByteArray} {nL2 : Nat} {ret2 : Option FieldType} {d2 idx np i n2 : Nat} {kd2 : mK} {I2 : mI} {J2 : mJ} {P2 : mP} {v : Value} {As stk : List Value} (hC : Ct y cc2 nL2 ret2 d2 0 0 (.ref (1000000 + i) :: As) n kd I J P (am_is (some v) n2 kd2 I2 J2 P2)) (hL : LvK own idx y np) (hM : Mc y cc2 nL2 ret2) (hd : decode cc pc = .ok (.invokevirtual idx, 3)) (hi : i < 21) (hdd : d2 < d) (hAs : As.length = np) (hst : stk = As.reverse ++ .ref (1000000 + i) :: st) (hw : (st.map fun v => v.category).sum ≤ 8)
    (k : RuZ (K, []) own cc nL ret nm d post kc ks (pc + 3) ls (v :: st) n2 kd2 I2 J2 P2) : RuZ (K, []) own cc nL ret nm d post kc ks pc ls stk n kd I J P := by
  intro p l e R s m args below meth c MC MS A D cA ad Qc XC free H locs cells slots lsC C r wf wl ws hl hc hs he
  have e9 : ad (1000000 + i) = cA (100 + i) := he.1.2 i (by omega)
  have hroom := am_room C hdd hM.2.2.1
  have hrm := (cx_rm C).2.2
  have hts := cx_ts C
  have wsr : ∀ v ∈ (.ref (1000000 + i) :: As), am_ok n v := fun v hv => ws v (by rw [hst]; rcases List.mem_cons.mp hv with e | h; exact e ▸ List.mem_append_right _ List.mem_cons_self; exact List.mem_append_left _ (List.mem_reverse.mpr h))
  have wst : ∀ v ∈ st, am_ok n v := fun v hv => ws v (by rw [hst]; exact List.mem_append_right _ (List.mem_cons_of_mem _ hv))
  have hb := callB_of (R := R) (s := s) (args := args) (Ts := gw) (ws := Cond.code y cc2 nL2 ret2 :: gw) (ws' := gw) (rm := ({ frames := d2, cells := 0, slots := 0, locals := 60 * d2 } : Room)) (mc := 0) (ms := 0) (own := own) (index := idx) np hts (am_good hM.1) rfl rfl rfl (hts _ hM.2.1) (hts _ hL.1) ⟨hM.2.2.2.1, hM.2.2.2.2, hL.2.2.2⟩ hroom
  have hcellB := vk_recv (cx_S C).2.2.1 hi r.2.2
  rw [← e9] at hcellB
  have hrun := vx_runV (C := "java/lang/String") (g := F0 m pc lsC (stk.map (am_v ad))) (As := As.map (am_v ad)) (rest := st.map (am_v ad)) (b := ad (1000000 + i)) (below := below) (meth := meth) (e := e) (locs := locs) (cells := cells) (slots := slots) ⟨cx_x C, cx_b C, cx_ml C, cx_own C, hts⟩ (hC l D cA ad H.size (cx_l C) wf wsr) ⟨hb, hts _ hL.2.1, hts _ hL.2.2.1⟩ ⟨am_blind, hcellB, fun U hU hW => am_pre (as := .ref (1000000 + i) :: As) C r he.1.2 U hU hW⟩ rfl (by simp [hAs]) hl.1 (by rw [hst]; simp [am_v, List.map_reverse]) (lv_room (by rw [am_cats]; exact hw)) hd (by omega)
  exact am_went C r wl wst hl hc hs he (Nat.le_of_eq (Nat.zero_add kc)) (Nat.le_of_eq (Nat.zero_add ks)) hrun (fun _ _ _ _ _ _ h => nomatch h.1) (fun w n' kd' I' J' P' h => by obtain ⟨h0, rfl, rfl, rfl, rfl, rfl⟩ := h; cases h0; exact k)
end Rules
theorem lk_J0_335 : LvK RJ0 335 yJ0_coder_7d493 0 := ⟨(gt3 213 rfl rfl), (gt3 214 rfl rfl), (gt3 215 rfl rfl), by decide +kernel⟩
theorem lk_J0_492 : LvK RJ0 492 yJ0_isLatin1_aae02 0 := ⟨(gt3 223 rfl rfl), (gt3 224 rfl rfl), (gt3 225 rfl rfl), by decide +kernel⟩
theorem lk_X5_143 : LvK RX5 143 yJ0_length_8abf5 0 := ⟨(gt3 209 rfl rfl), (gt3 210 rfl rfl), (gt3 211 rfl rfl), by decide +kernel⟩
theorem lk_X5_148 : LvK RX5 148 yJ0_charAt_5068e 1 := ⟨(gt3 219 rfl rfl), (gt3 220 rfl rfl), (gt3 221 rfl rfl), by decide +kernel⟩
theorem lk_X4_17 : LvK RX4 17 yJ0_length_8abf5 0 := ⟨(gt6 12 rfl rfl), (gt3 210 rfl rfl), (gt3 211 rfl rfl), by decide +kernel⟩
theorem lk_X4_22 : LvK RX4 22 yJ0_charAt_5068e 1 := ⟨(gt6 13 rfl rfl), (gt3 220 rfl rfl), (gt3 221 rfl rfl), by decide +kernel⟩
theorem sN_small : ∀ i, i < 21 → sN i ≤ 18 := by decide +kernel
theorem sC_char : ∀ i, i < 21 → ∀ j, j < 18 → (((sC i j &&& nI 255).toUInt32 % 65536).toInt32 = sC i j ∧ narrow .char (.int (sC i j)) = .int (sC i j)) := by decide +kernel
theorem sN_shr : ∀ i, i < 21 → nI (sN i) >>> (nI 0 &&& 31) = nI (sN i) := by decide +kernel
theorem dJ0_coder_7d493_0 : decode cJ0_coder_7d493 0 = .ok (.getstatic 38, 3) := by decide +kernel
theorem dJ0_coder_7d493_3 : decode cJ0_coder_7d493 3 = .ok (.ifCond .eq 10, 3) := by decide +kernel
theorem dJ0_coder_7d493_6 : decode cJ0_coder_7d493 6 = .ok (.aload_n 0, 1) := by decide +kernel
theorem dJ0_coder_7d493_7 : decode cJ0_coder_7d493 7 = .ok (.getfield 15, 3) := by decide +kernel
theorem dJ0_coder_7d493_10 : decode cJ0_coder_7d493 10 = .ok (.goto 4, 3) := by decide +kernel
theorem dJ0_coder_7d493_13 : decode cJ0_coder_7d493 13 = .ok (.iconst 1, 1) := by decide +kernel
theorem dJ0_coder_7d493_14 : decode cJ0_coder_7d493 14 = .ok (.ireturn, 1) := by decide +kernel
set_option maxHeartbeats 4000000 in
set_option maxRecDepth 100000 in
theorem c_J0_coder_7d493 (i : Nat) {n : Nat} {kd : mK} {I : mI} {J : mJ} {P : mP} (hi : i < 21) : Ct yJ0_coder_7d493 cJ0_coder_7d493 1 (some .byte) 1 0 0 [.ref (1000000 + i)] n kd I J P (am_is (some (.int (nI 0))) n kd I J P) := by
  refine ct_of 0 (by decide +kernel) (Nat.le_of_ble_eq_true rfl) rfl ?_
  refine r_getsC rfl dJ0_coder_7d493_0 ?_
  refine r_if_eq (tgt := 13) dJ0_coder_7d493_3 (by decide) (fun hz => absurd hz (show ¬ _ from (by rw [z_eq (by omega)]; omega))) (fun _ => ?_)
  refine r_aload_n dJ0_coder_7d493_6 rfl ?_
  refine r_getKc rfl dJ0_coder_7d493_7 hi ?_
  refine r_goto (tgt := 14) dJ0_coder_7d493_10 (by decide) ?_
  refine r_nret rfl dJ0_coder_7d493_14 (by decide) am_is.mk

theorem dJ0_isLatin1_aae02_0 : decode cJ0_isLatin1_aae02 0 = .ok (.getstatic 38, 3) := by decide +kernel
theorem dJ0_isLatin1_aae02_3 : decode cJ0_isLatin1_aae02 3 = .ok (.ifCond .eq 14, 3) := by decide +kernel
theorem dJ0_isLatin1_aae02_6 : decode cJ0_isLatin1_aae02 6 = .ok (.aload_n 0, 1) := by decide +kernel
theorem dJ0_isLatin1_aae02_7 : decode cJ0_isLatin1_aae02 7 = .ok (.getfield 15, 3) := by decide +kernel
theorem dJ0_isLatin1_aae02_10 : decode cJ0_isLatin1_aae02 10 = .ok (.ifCond .ne 7, 3) := by decide +kernel
theorem dJ0_isLatin1_aae02_13 : decode cJ0_isLatin1_aae02 13 = .ok (.iconst 1, 1) := by decide +kernel
theorem dJ0_isLatin1_aae02_14 : decode cJ0_isLatin1_aae02 14 = .ok (.goto 4, 3) := by decide +kernel
theorem dJ0_isLatin1_aae02_17 : decode cJ0_isLatin1_aae02 17 = .ok (.iconst 0, 1) := by decide +kernel
theorem dJ0_isLatin1_aae02_18 : decode cJ0_isLatin1_aae02 18 = .ok (.ireturn, 1) := by decide +kernel
set_option maxHeartbeats 4000000 in
set_option maxRecDepth 100000 in
theorem c_J0_isLatin1_aae02 (i : Nat) {n : Nat} {kd : mK} {I : mI} {J : mJ} {P : mP} (hi : i < 21) : Ct yJ0_isLatin1_aae02 cJ0_isLatin1_aae02 1 (some .boolean) 1 0 0 [.ref (1000000 + i)] n kd I J P (am_is (some (.int (nI 1))) n kd I J P) := by
  refine ct_of 0 (by decide +kernel) (Nat.le_of_ble_eq_true rfl) rfl ?_
  refine r_getsC rfl dJ0_isLatin1_aae02_0 ?_
  refine r_if_eq (tgt := 17) dJ0_isLatin1_aae02_3 (by decide) (fun hz => absurd hz (show ¬ _ from (by rw [z_eq (by omega)]; omega))) (fun _ => ?_)
  refine r_aload_n dJ0_isLatin1_aae02_6 rfl ?_
  refine r_getKc rfl dJ0_isLatin1_aae02_7 hi ?_
  refine r_if_ne (tgt := 17) dJ0_isLatin1_aae02_10 (by decide) (fun hz => absurd (show _ from rfl) hz) (fun _ => ?_)
  refine r_iconst (v := nI 1) dJ0_isLatin1_aae02_13 (by decide) ?_
  refine r_goto (tgt := 18) dJ0_isLatin1_aae02_14 (by decide) ?_
  refine r_zret rfl dJ0_isLatin1_aae02_18 (Or.inr rfl) am_is.mk

theorem dJ0_length_8abf5_0 : decode cJ0_length_8abf5 0 = .ok (.aload_n 0, 1) := by decide +kernel
theorem dJ0_length_8abf5_1 : decode cJ0_length_8abf5 1 = .ok (.getfield 9, 3) := by decide +kernel
theorem dJ0_length_8abf5_4 : decode cJ0_length_8abf5 4 = .ok (.arraylength, 1) := by decide +kernel
theorem dJ0_length_8abf5_5 : decode cJ0_length_8abf5 5 = .ok (.aload_n 0, 1) := by decide +kernel
theorem dJ0_length_8abf5_6 : decode cJ0_length_8abf5 6 = .ok (.invokevirtual 335, 3) := by decide +kernel
theorem dJ0_length_8abf5_9 : decode cJ0_length_8abf5 9 = .ok (.ishr, 1) := by decide +kernel
theorem dJ0_length_8abf5_10 : decode cJ0_length_8abf5 10 = .ok (.ireturn, 1) := by decide +kernel
set_option maxHeartbeats 4000000 in
set_option maxRecDepth 100000 in
theorem c_J0_length_8abf5 (i : Nat) {n : Nat} {kd : mK} {I : mI} {J : mJ} {P : mP} (hi : i < 21) : Ct yJ0_length_8abf5 cJ0_length_8abf5 1 (some .int) 2 0 0 [.ref (1000000 + i)] n kd I J P (am_is (some (.int (nI (sN i)))) n kd I J P) := by
  refine ct_of 0 (by decide +kernel) (Nat.le_of_ble_eq_true rfl) rfl ?_
  refine r_aload_n dJ0_length_8abf5_0 rfl ?_
  refine r_getKv rfl dJ0_length_8abf5_1 hi ?_
  refine r_alenK dJ0_length_8abf5_4 hi ?_
  refine r_aload_n dJ0_length_8abf5_5 rfl ?_
  refine r_virtK (c_J0_coder_7d493 i hi) lk_J0_335 mc_J0_coder_7d493 dJ0_length_8abf5_6 hi (by decide) rfl rfl (Nat.le_of_ble_eq_true rfl) ?_
  refine r_ishr dJ0_length_8abf5_9 ?_
  rw [sN_shr i hi]
  refine r_iret rfl dJ0_length_8abf5_10 ?_
  exact am_is.mk

theorem dJ3_checkIndex_8e157_0 : decode cJ3_checkIndex_8e157 0 = .ok (.iload_n 0, 1) := by decide +kernel
theorem dJ3_checkIndex_8e157_1 : decode cJ3_checkIndex_8e157 1 = .ok (.ifCond .lt 8, 3) := by decide +kernel
theorem dJ3_checkIndex_8e157_4 : decode cJ3_checkIndex_8e157 4 = .ok (.iload_n 0, 1) := by decide +kernel
theorem dJ3_checkIndex_8e157_5 : decode cJ3_checkIndex_8e157 5 = .ok (.iload_n 1, 1) := by decide +kernel
theorem dJ3_checkIndex_8e157_6 : decode cJ3_checkIndex_8e157 6 = .ok (.if_icmp .lt 10, 3) := by decide +kernel
theorem dJ3_checkIndex_8e157_9 : decode cJ3_checkIndex_8e157 9 = .ok (.aload_n 2, 1) := by decide +kernel
theorem dJ3_checkIndex_8e157_10 : decode cJ3_checkIndex_8e157 10 = .ok (.iload_n 0, 1) := by decide +kernel
theorem dJ3_checkIndex_8e157_11 : decode cJ3_checkIndex_8e157 11 = .ok (.iload_n 1, 1) := by decide +kernel
theorem dJ3_checkIndex_8e157_12 : decode cJ3_checkIndex_8e157 12 = .ok (.invokestatic 95, 3) := by decide +kernel
theorem dJ3_checkIndex_8e157_15 : decode cJ3_checkIndex_8e157 15 = .ok (.athrow, 1) := by decide +kernel
theorem dJ3_checkIndex_8e157_16 : decode cJ3_checkIndex_8e157 16 = .ok (.iload_n 0, 1) := by decide +kernel
theorem dJ3_checkIndex_8e157_17 : decode cJ3_checkIndex_8e157 17 = .ok (.ireturn, 1) := by decide +kernel
set_option maxHeartbeats 4000000 in
set_option maxRecDepth 100000 in
theorem c_J3_checkIndex_8e157_0 (j len : Nat) {n : Nat} {kd : mK} {I : mI} {J : mJ} {P : mP} (hj : j < len) (hl : len < 2 ^ 31) : Ct yJ3_checkIndex_8e157 cJ3_checkIndex_8e157 3 (some .int) 1 0 0 [.int (nI j), .int (nI len), .null] n kd I J P (am_is (some (.int (nI j))) n kd I J P) := by
  refine ct_of 0 (by decide +kernel) (Nat.le_of_ble_eq_true rfl) rfl ?_
  refine r_iload_n dJ3_checkIndex_8e157_0 rfl ?_
  refine r_if_lt (tgt := 9) dJ3_checkIndex_8e157_1 (by decide) (fun hz => absurd hz (show ¬ _ from (z_nlt (by omega)))) (fun _ => ?_)
  refine r_iload_n dJ3_checkIndex_8e157_4 rfl ?_
  refine r_iload_n dJ3_checkIndex_8e157_5 rfl ?_
  refine r_icmp_lt (tgt := 16) dJ3_checkIndex_8e157_6 (by decide) (fun _ => ?_) (fun hz => absurd (show _ from (by rw [nI_ltI (by omega) (by omega)]; omega)) hz)
  refine r_iload_n dJ3_checkIndex_8e157_16 rfl ?_
  refine r_iret rfl dJ3_checkIndex_8e157_17 ?_
  exact am_is.mk

set_option maxHeartbeats 4000000 in
set_option maxRecDepth 100000 in
theorem c_J3_checkIndex_8e157_1 (j len : Nat) {n : Nat} {kd : mK} {I : mI} {J : mJ} {P : mP} (hj : j < len) (hl : len < 2 ^ 31) : Ct yJ3_checkIndex_8e157 cJ3_checkIndex_8e157 3 (some .int) 1 0 0 [.int (nI j), .int (nI len), .ref (1000000 + 202)] n kd I J P (am_is (some (.int (nI j))) n kd I J P) := by
  refine ct_of 0 (by decide +kernel) (Nat.le_of_ble_eq_true rfl) rfl ?_
  refine r_iload_n dJ3_checkIndex_8e157_0 rfl ?_
  refine r_if_lt (tgt := 9) dJ3_checkIndex_8e157_1 (by decide) (fun hz => absurd hz (show ¬ _ from (z_nlt (by omega)))) (fun _ => ?_)
  refine r_iload_n dJ3_checkIndex_8e157_4 rfl ?_
  refine r_iload_n dJ3_checkIndex_8e157_5 rfl ?_
  refine r_icmp_lt (tgt := 16) dJ3_checkIndex_8e157_6 (by decide) (fun _ => ?_) (fun hz => absurd (show _ from (by rw [nI_ltI (by omega) (by omega)]; omega)) hz)
  refine r_iload_n dJ3_checkIndex_8e157_16 rfl ?_
  refine r_iret rfl dJ3_checkIndex_8e157_17 ?_
  exact am_is.mk

theorem dJ0_checkIndex_df160_0 : decode cJ0_checkIndex_df160 0 = .ok (.iload_n 0, 1) := by decide +kernel
theorem dJ0_checkIndex_df160_1 : decode cJ0_checkIndex_df160 1 = .ok (.iload_n 1, 1) := by decide +kernel
theorem dJ0_checkIndex_df160_2 : decode cJ0_checkIndex_df160 2 = .ok (.getstatic 1053, 3) := by decide +kernel
theorem dJ0_checkIndex_df160_5 : decode cJ0_checkIndex_df160 5 = .ok (.invokestatic 1059, 3) := by decide +kernel
theorem dJ0_checkIndex_df160_8 : decode cJ0_checkIndex_df160 8 = .ok (.pop, 1) := by decide +kernel
theorem dJ0_checkIndex_df160_9 : decode cJ0_checkIndex_df160 9 = .ok (.return_, 1) := by decide +kernel
set_option maxHeartbeats 4000000 in
set_option maxRecDepth 100000 in
theorem c_J0_checkIndex_df160 (j len : Nat) {n : Nat} {kd : mK} {I : mI} {J : mJ} {P : mP} (hj : j < len) (hl : len < 2 ^ 31) : Ct yJ0_checkIndex_df160 cJ0_checkIndex_df160 2 none 2 0 0 [.int (nI j), .int (nI len)] n kd I J P (am_is none n kd I J P) := by
  refine ct_of 0 (by decide +kernel) (Nat.le_of_ble_eq_true rfl) rfl ?_
  refine r_iload_n dJ0_checkIndex_df160_0 rfl ?_
  refine r_iload_n dJ0_checkIndex_df160_1 rfl ?_
  refine r_getsF rfl dJ0_checkIndex_df160_2 ?_ ?_
  · refine r_statE (c_J3_checkIndex_8e157_0 j len hj hl) lk_J0_1059 mc_J3_checkIndex_8e157 dJ0_checkIndex_df160_5 (by decide) rfl rfl (Nat.le_of_ble_eq_true rfl) ?_
    refine r_pop dJ0_checkIndex_df160_8 rfl ?_
    refine r_vret rfl dJ0_checkIndex_df160_9 ?_
    exact am_is.mk
  · refine r_statE (c_J3_checkIndex_8e157_1 j len hj hl) lk_J0_1059 mc_J3_checkIndex_8e157 dJ0_checkIndex_df160_5 (by decide) rfl rfl (Nat.le_of_ble_eq_true rfl) ?_
    refine r_pop dJ0_checkIndex_df160_8 rfl ?_
    refine r_vret rfl dJ0_checkIndex_df160_9 ?_
    exact am_is.mk

theorem dJ1_charAt_3b067_0 : decode cJ1_charAt_3b067 0 = .ok (.iload_n 1, 1) := by decide +kernel
theorem dJ1_charAt_3b067_1 : decode cJ1_charAt_3b067 1 = .ok (.aload_n 0, 1) := by decide +kernel
theorem dJ1_charAt_3b067_2 : decode cJ1_charAt_3b067 2 = .ok (.arraylength, 1) := by decide +kernel
theorem dJ1_charAt_3b067_3 : decode cJ1_charAt_3b067 3 = .ok (.invokestatic 9, 3) := by decide +kernel
theorem dJ1_charAt_3b067_6 : decode cJ1_charAt_3b067 6 = .ok (.aload_n 0, 1) := by decide +kernel
theorem dJ1_charAt_3b067_7 : decode cJ1_charAt_3b067 7 = .ok (.iload_n 1, 1) := by decide +kernel
theorem dJ1_charAt_3b067_8 : decode cJ1_charAt_3b067 8 = .ok (.baload, 1) := by decide +kernel
theorem dJ1_charAt_3b067_9 : decode cJ1_charAt_3b067 9 = .ok (.sipush 255, 3) := by decide +kernel
theorem dJ1_charAt_3b067_12 : decode cJ1_charAt_3b067 12 = .ok (.iand, 1) := by decide +kernel
theorem dJ1_charAt_3b067_13 : decode cJ1_charAt_3b067 13 = .ok (.i2c, 1) := by decide +kernel
theorem dJ1_charAt_3b067_14 : decode cJ1_charAt_3b067 14 = .ok (.ireturn, 1) := by decide +kernel
set_option maxHeartbeats 4000000 in
set_option maxRecDepth 100000 in
theorem c_J1_charAt_3b067 (i j : Nat) {n : Nat} {kd : mK} {I : mI} {J : mJ} {P : mP} (hi : i < 21) (hj : j < sN i) : Ct yJ1_charAt_3b067 cJ1_charAt_3b067 2 (some .char) 3 0 0 [.ref (1000100 + i), .int (nI j)] n kd I J P (am_is (some (.int (sC i j))) n kd I J P) := by
  have h18 := sN_small i hi
  refine ct_of 0 (by decide +kernel) (Nat.le_of_ble_eq_true rfl) rfl ?_
  refine r_iload_n dJ1_charAt_3b067_0 rfl ?_
  refine r_aload_n dJ1_charAt_3b067_1 rfl ?_
  refine r_alenK dJ1_charAt_3b067_2 hi ?_
  refine r_statV (c_J0_checkIndex_df160 j (sN i) hj (by omega)) lk_J1_9 mc_J0_checkIndex_df160 dJ1_charAt_3b067_3 (by decide) rfl rfl (Nat.le_of_ble_eq_true rfl) ?_
  refine r_aload_n dJ1_charAt_3b067_6 rfl ?_
  refine r_iload_n dJ1_charAt_3b067_7 rfl ?_
  refine r_baldK dJ1_charAt_3b067_8 hi (nI_in8 (sN i) hj (by omega)) (nI_clamp (by omega)) ?_
  refine r_sipush (v := nI 255) dJ1_charAt_3b067_9 (by decide) ?_
  refine r_iand dJ1_charAt_3b067_12 ?_
  refine r_i2c dJ1_charAt_3b067_13 ?_
  rw [(sC_char i hi j (by omega)).1]
  refine r_nret rfl dJ1_charAt_3b067_14 (sC_char i hi j (by omega)).2 am_is.mk

theorem dJ0_charAt_5068e_0 : decode cJ0_charAt_5068e 0 = .ok (.aload_n 0, 1) := by decide +kernel
theorem dJ0_charAt_5068e_1 : decode cJ0_charAt_5068e 1 = .ok (.invokevirtual 492, 3) := by decide +kernel
theorem dJ0_charAt_5068e_4 : decode cJ0_charAt_5068e 4 = .ok (.ifCond .eq 12, 3) := by decide +kernel
theorem dJ0_charAt_5068e_7 : decode cJ0_charAt_5068e 7 = .ok (.aload_n 0, 1) := by decide +kernel
theorem dJ0_charAt_5068e_8 : decode cJ0_charAt_5068e 8 = .ok (.getfield 9, 3) := by decide +kernel
theorem dJ0_charAt_5068e_11 : decode cJ0_charAt_5068e 11 = .ok (.iload_n 1, 1) := by decide +kernel
theorem dJ0_charAt_5068e_12 : decode cJ0_charAt_5068e 12 = .ok (.invokestatic 495, 3) := by decide +kernel
theorem dJ0_charAt_5068e_15 : decode cJ0_charAt_5068e 15 = .ok (.ireturn, 1) := by decide +kernel
theorem dJ0_charAt_5068e_16 : decode cJ0_charAt_5068e 16 = .ok (.aload_n 0, 1) := by decide +kernel
theorem dJ0_charAt_5068e_17 : decode cJ0_charAt_5068e 17 = .ok (.getfield 9, 3) := by decide +kernel
theorem dJ0_charAt_5068e_20 : decode cJ0_charAt_5068e 20 = .ok (.iload_n 1, 1) := by decide +kernel
theorem dJ0_charAt_5068e_21 : decode cJ0_charAt_5068e 21 = .ok (.invokestatic 498, 3) := by decide +kernel
theorem dJ0_charAt_5068e_24 : decode cJ0_charAt_5068e 24 = .ok (.ireturn, 1) := by decide +kernel
set_option maxHeartbeats 4000000 in
set_option maxRecDepth 100000 in
theorem c_J0_charAt_5068e (i j : Nat) {n : Nat} {kd : mK} {I : mI} {J : mJ} {P : mP} (hi : i < 21) (hj : j < sN i) : Ct yJ0_charAt_5068e cJ0_charAt_5068e 2 (some .char) 4 0 0 [.ref (1000000 + i), .int (nI j)] n kd I J P (am_is (some (.int (sC i j))) n kd I J P) := by
  have h18 := sN_small i hi
  refine ct_of 0 (by decide +kernel) (Nat.le_of_ble_eq_true rfl) rfl ?_
  refine r_aload_n dJ0_charAt_5068e_0 rfl ?_
  refine r_virtK (c_J0_isLatin1_aae02 i hi) lk_J0_492 mc_J0_isLatin1_aae02 dJ0_charAt_5068e_1 hi (by decide) rfl rfl (Nat.le_of_ble_eq_true rfl) ?_
  refine r_if_eq (tgt := 16) dJ0_charAt_5068e_4 (by decide) (fun hz => absurd hz (show ¬ _ from (by rw [z_eq (by omega)]; omega))) (fun _ => ?_)
  refine r_aload_n dJ0_charAt_5068e_7 rfl ?_
  refine r_getKv rfl dJ0_charAt_5068e_8 hi ?_
  refine r_iload_n dJ0_charAt_5068e_11 rfl ?_
  refine r_statE (c_J1_charAt_3b067 i j hi hj) lk_J0_495 mc_J1_charAt_3b067 dJ0_charAt_5068e_12 (by decide) rfl rfl (Nat.le_of_ble_eq_true rfl) ?_
  refine r_nret rfl dJ0_charAt_5068e_15 (sC_char i hi j (by omega)).2 am_is.mk

