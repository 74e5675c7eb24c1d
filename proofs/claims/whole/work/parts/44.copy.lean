/-! System.arraycopy -/
theorem ac_X2 : Cond.methodLink RX2 43 arraycopyName ∈ gw := (gt3 98 rfl rfl)
theorem ac_X7 : Cond.methodLink RX7 60 arraycopyName ∈ gw := (gt4 99 rfl rfl)
theorem ac_n : Cond.native arraycopyName ∈ gw := (gt3 100 rfl rfl)
theorem ac_s : Cond.static arraycopyName ∈ gw := (gt3 99 rfl rfl)
theorem ac_i : Cond.initialized "java/lang/System" ∈ gw := (gt1 22 rfl rfl)
theorem ac_w : nativeFrameWords "java/lang/System" "arraycopy" 5 ≤ 40 := by decide +kernel
section Rules
variable {Z : am_Z} {own : String} {cc : ByteArray} {nL : Nat} {ret : Option FieldType} {nm : String} {d kc ks pc : Nat} {post : am_Post} {ls : List (Option Value)} {st : List Value} {n : Nat} {kd : mK} {I : mI} {J : mJ} {P : mP}
theorem r_copy {t a0 a n0 n1 idx : Nat} {sp dp nn : Int32} (ht : t = 1 ∨ t = 2) (hd : decode cc pc = .ok (.invokestatic idx, 3)) (hlk : Cond.methodLink own idx arraycopyName ∈ gw) (hk0 : kd a0 = some (t, n0)) (hk1 : kd a = some (t, n1)) (h1 : ¬ sp < 0) (h2 : ¬ dp < 0) (h3 : ¬ nn < 0) (h4 : sp.toNatClampNeg + nn.toNatClampNeg ≤ n0) (h5 : dp.toNatClampNeg + nn.toNatClampNeg ≤ n1) (hfit : t = 2 → ∀ i, i < nn.toNatClampNeg → fits .byte (.int (I a0 (sp.toNatClampNeg + i))) = true) (hdd : 0 < d) (hw : (st.map fun v => v.category).sum ≤ 8)
    (k : RuZ Z own cc nL ret nm d post kc ks (pc + 3) ls st n kd (va_up I a (va_cpy (I a0) (I a) sp.toNatClampNeg dp.toNatClampNeg nn.toNatClampNeg)) J P) : RuZ Z own cc nL ret nm d post kc ks pc ls (.int nn :: .int dp :: .ref a :: .int sp :: .ref a0 :: st) n kd I J P := by
  intro p l e R s m args below meth c MC MS A D cA ad Qc XC free H locs cells slots lsC C r wf wl ws hl hc hs he
  have hts := cx_ts C
  have hrm := cx_rm C
  have hacw := ac_w
  have hset : (am_w cA ad n kd I J P).set a (ad a, .inl (cA t, n1, .inl (va_cpy (I a0) (I a) sp.toNatClampNeg dp.toNatClampNeg nn.toNatClampNeg))) = am_w cA ad n kd (va_up I a (va_cpy (I a0) (I a) sp.toNatClampNeg dp.toNatClampNeg nn.toNatClampNeg)) J P := am_w_set (by rw [am_e_arr hk1 (by omega) (by omega), am_up_s]) (fun b hb => am_e_row (am_up_n I _ hb) rfl rfl)
  have go : ∀ (H1 : Heap) (locs1 : List Loc), va_P D vwCl ((am_w cA ad n kd I J P).set a (ad a, .inl (cA t, n1, .inl (va_cpy (I a0) (I a) sp.toNatClampNeg dp.toNatClampNeg nn.toNatClampNeg)))) H1 → va_D A ((am_w cA ad n kd I J P).set a (ad a, .inl (cA t, n1, .inl (va_cpy (I a0) (I a) sp.toNatClampNeg dp.toNatClampNeg nn.toNatClampNeg)))) → va_S A s.heap H1 locs1 → W p l e R s m args below meth c H1 locs1 cells slots (vx_MQ below Qc XC args s MC MS free) (F0 m (pc + 3) lsC (st.map (am_v ad))) := by
    intro H1 locs1 hP1 hD1 hS1
    rw [hset] at hP1 hD1
    exact k p l e R s m args below meth c MC MS A D cA ad Qc XC free H1 locs1 cells slots lsC C ⟨hP1, hD1, hS1⟩ wf wl (ok_t (ok_t (ok_t (ok_t (ok_t ws))))) hl hc hs he
  rcases ht with rfl | rfl
  · exact va_copyi (ty := .int) (cx_x C) (cx_b C) ((cx_ml C).trans hl.1.symm) (cx_own C) (hts _ hlk) (hts _ ac_n) (hts _ ac_s) (hts _ ac_i) (cx_K C) r.1 r.2.1 r.2.2 a0 a 0 0 (by rw [am_w_at (wf.1 a0 _ hk0), am_e_arr hk0 (by decide) (by decide)]) (by rw [am_w_at (wf.1 a _ hk1), am_e_arr hk1 (by decide) (by decide)]) rfl rfl rfl h1 h2 h3 h4 h5 (fun _ _ => rfl) (by omega) (by rw [am_cats]; omega) hd go
  · exact va_copyi (ty := .byte) (cx_x C) (cx_b C) ((cx_ml C).trans hl.1.symm) (cx_own C) (hts _ hlk) (hts _ ac_n) (hts _ ac_s) (hts _ ac_i) (cx_K C) r.1 r.2.1 r.2.2 a0 a 1 1 (by rw [am_w_at (wf.1 a0 _ hk0), am_e_arr hk0 (by decide) (by decide)]) (by rw [am_w_at (wf.1 a _ hk1), am_e_arr hk1 (by decide) (by decide)]) rfl rfl rfl h1 h2 h3 h4 h5 (hfit rfl) (by omega) (by rw [am_cats]; omega) hd go
end Rules
