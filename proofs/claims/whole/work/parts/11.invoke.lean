/-! RULES OF CALLS AND THROWS -/
def Mc (y : MethodName) (cc : ByteArray) (nL : Nat) (ret : Option FieldType) : Prop := Cond.code y cc nL ret ∈ gw ∧ Cond.initialized y.cls ∈ gw ∧ nL ≤ 41 ∧ y.cls ≠ "java/lang/invoke/MethodHandle" ∧ y.cls ≠ "java/lang/invoke/VarHandle"
def Lv (own : String) (idx : Nat) (y : MethodName) (ci np : Nat) : Prop := Cond.methodLink own idx y ∈ gw ∧ Cond.instanceMethod y ∈ gw ∧ Cond.selects (aR ci) y y ∈ gw ∧ ci < 11 ∧ (parseMethodDescriptor y.desc).map (fun d => d.parameters.length) = some np
def Ls (own : String) (idx : Nat) (y : MethodName) (np : Nat) : Prop := Cond.methodLink own idx y ∈ gw ∧ Cond.static y ∈ gw ∧ (parseMethodDescriptor y.desc).map (fun d => d.parameters.length) = some np
theorem gw_good : ∀ w ∈ gw, goodWord w = true := fun _ h => (List.mem_filter.mp h).2
theorem am_good {y : MethodName} {cc : ByteArray} {nL : Nat} {ret : Option FieldType} (h : Cond.code y cc nL ret ∈ gw) : GoodIn gw (Cond.code y cc nL ret :: gw) := fun w hw => by
  have hm : w ∈ gw := (List.mem_cons.mp hw).elim (fun e => e ▸ h) id
  exact ⟨hm, good_of_word (gw_good w hm)⟩
section Rules
variable {K : (Nat → ClassId) → Prop} {own : String} {cc : ByteArray} {nL : Nat} {ret : Option FieldType} {nm : String} {d kc ks pc : Nat} {post : am_Post} {ls : List (Option Value)} {st : List Value} {n : Nat} {kd : mK} {I : mI} {J : mJ} {P : mP}
variable {p : Program} {l : Launch} {e : Env} {R : Room} {s : State} {m : MethodId} {args : Array Value} {below : List Frame} {meth : Method} {c : Code} {MC MS : Nat} {A : Nat → Prop} {D : va_G} {cA : Nat → ClassId} {ad : Nat → Nat} {Qc : Array Value → State → Outcome → State → Prop} {XC : String → State → State → Prop} {free : Addr → Prop} {H : Heap} {locs : List Loc} {cells slots : Nat} {lsC : Array Slot}
theorem am_hF (C : am_Cx (K, []) own cc nL ret nm d MC MS A D cA p l R s m args meth c) (r : am_R D cA ad n kd I J P A s.heap H locs) : ∀ q, va_A (am_w cA ad n kd I J P) H.size q → A q := by
  rintro q (⟨k, e, hk⟩ | hq)
  · exact r.2.1.2 k _ hk
  · exact cx_A C q (Nat.le_trans r.2.2.1 hq)
theorem am_pre {as : List Value} (C : am_Cx (K, []) own cc nL ret nm d MC MS A D cA p l R s m args meth c) (r : am_R D cA ad n kd I J P A s.heap H locs) (hst : am_St cA ad) : ∀ U : State, U.heap = H → s.WarmedH U.vm → am_Pc D cA ad as n kd I J P H.size (as.map (am_v ad)).toArray U := by
  intro U hU hW
  refine ⟨rfl, by rw [hU], by rw [hU]; exact r.1, va_K.moved hW.alike (cx_K C), r.2.1.weaken (fun _ _ _ _ => trivial), ?_, (cx_N C).warm hW, hst⟩
  have h1 : am_S A cA s H := (cx_S C).kept (fun a ha hn => r.2.2.2.1 a ha hn)
  rw [hU]
  exact (h1.warm hW).narrow (am_hF C r)
/-- behind a call: what it left -/
theorem am_went {post2 : am_Post} {stk : List Value} {mc ms kc2 ks2 : Nat} {a2 : Array Value} (C : am_Cx (K, []) own cc nL ret nm d MC MS A D cA p l R s m args meth c) (r : am_R D cA ad n kd I J P A s.heap H locs) (wl : ∀ v, some v ∈ ls → am_ok n v) (ws : ∀ v ∈ st, am_ok n v) (hl : am_L ad lsC nL ls) (hc : cells + kc ≤ MC) (hs : slots + ks ≤ MS) (he : am_End D cA ad n A s args post Qc XC free)
    (hkc : mc + kc2 ≤ kc) (hks : ms + ks2 ≤ ks) (hr : vx_Run p l e R s m args below meth c H locs cells slots mc ms (F0 m pc lsC stk) (st.map (am_v ad)) (am_Qc post2 D cA ad n (va_A (am_w cA ad n kd I J P) H.size) a2) (am_Xc post2 D cA ad n (va_A (am_w cA ad n kd I J P) H.size)) (va_A (am_w cA ad n kd I J P) H.size))
    (hx : ∀ E n' kd' I' J' P', post2 (.inr E) n' kd' I' J' P' → post (.inr E) n' kd' I' J' P')
    (k : ∀ v n' kd' I' J' P', post2 (.inl v) n' kd' I' J' P' → RuZ (K, []) own cc nL ret nm d post kc2 ks2 (pc + 3) ls (v.toList ++ st) n' kd' I' J' P') :
    W p l e R s m args below meth c H locs cells slots (vx_MQ below Qc XC args s MC MS free) (F0 m pc lsC stk) := by
  have hF := am_hF C r
  intro T hT X
  rcases hr T hT X with ⟨v, st₀, t, T', L, h0, X', hL, e1, e2, hq, hst⟩ | ⟨q, st₀, t, T', L, E, ce, h0, X', hL, e1, e2, hq, hce, hcv, hcl, hst⟩
  · obtain ⟨v2, n', kd', I', J', P', ad', hv, hp, hok, hwf, hn, had, hP1, hD1, hF1⟩ := hq
    cases hv
    obtain ⟨k1, k2, k3⟩ := vx_keep h0 e1 r.2.2 (fun q _ h => hF q h) hF hL hF1
    have r2 : am_R D cA ad' n' kd' I' J' P' A s.heap T'.heap (locs ++ L) := ⟨by rw [e1]; exact hP1, hD1.weaken (fun _ q _ h => hF q.1 h), k3⟩
    have hstk : (v2.map (am_v ad')).toList ++ st.map (am_v ad) = (v2.toList ++ st).map (am_v ad') := by
      rw [List.map_append, ← am_vs_eq had ws]
      cases v2 <;> rfl
    have hW := k v2 n' kd' I' J' P' hp p l e R s m args below meth c MC MS A D cA ad' Qc XC free T'.heap (locs ++ L) (cells + mc) (slots + ms) lsC C r2 hwf (fun w hw => (wl w hw).mono hn) (fun w hw => by
      rcases List.mem_append.mp hw with h | h
      · cases v2 with
        | none => cases h
        | some z => simp at h; exact h ▸ hok z rfl
      · exact (ws w h).mono hn) ⟨hl.1, hl.2.1, fun i w hw => by rw [am_v_eq had (wl w (List.mem_of_getElem? hw))]; exact hl.2.2 i w hw⟩ (by omega) (by omega) (he.on hn had)
    obtain ⟨t2, a1, b1⟩ := hW T' rfl X'
    refine ⟨t2, hst t2 ?_, b1⟩
    have : ({ F0 m pc lsC stk with pc := (F0 m pc lsC stk).pc + 3, stack := (v2.map (am_v ad')).toList ++ st.map (am_v ad) } : JFrame) = F0 m (pc + 3) lsC ((v2.toList ++ st).map (am_v ad')) := by rw [hstk]
    rw [this]
    exact a1
  · obtain ⟨n', kd', I', J', P', ad', hp, hwf, hn, had, hP1, hD1, hF1⟩ := hq
    obtain ⟨k1, k2, k3⟩ := vx_keep h0 e1 r.2.2 (fun q _ h => hF q h) hF hL hF1
    have r2 : am_R D cA ad' n' kd' I' J' P' A s.heap T'.heap (locs ++ L) := ⟨by rw [e1]; exact hP1, hD1.weaken (fun _ q _ h => hF q.1 h), k3⟩
    have hout := vx_out (Qc := Qc) (XC := XC) (args := args) (below := below) (free := free) (ls := lsC) (rest := st.map (am_v ad)) (pc := pc) (p := p) (l := l) (e := e) (R := R) (m := m) (H := T'.heap) (locs := locs ++ L) (cells := cells + mc) (slots := slots + ms) (mc := MC) (ms := MS) (fun x hx => by rw [cx_ex C] at hx; cases hx) (cx_lk C) (by rw [e1]; exact hce) hcv hcl
      (fun t ht hA => he.2.2 E n' kd' I' J' P' ad' T'.heap (locs ++ L) (hx E n' kd' I' J' P' hp) r2 hwf hn had t ht hA) (fun z hz => he.1.1 _ (k3.2.2 z hz)) (by omega) (by omega)
    obtain ⟨t2, a1, b1⟩ := hout T' rfl X'
    exact ⟨t2, hst.trans a1, b1⟩
theorem am_room {d2 nL2 : Nat} (C : am_Cx (K, []) own cc nL ret nm d MC MS A D cA p l R s m args meth c) (hd : d2 < d) (hn : nL2 ≤ 41) : d2 + 1 ≤ R.frames ∧ 8 + (nL2 + 11) + 60 * d2 ≤ R.locals := by
  have h1 := (cx_rm C).1
  have h2 := (cx_rm C).2.1
  omega
theorem r_virt {y : MethodName} {cc2 : ByteArray} {nL2 : Nat} {ret2 : Option FieldType} {d2 mc ms kc2 ks2 idx ci np b : Nat} {As stk : List Value} {post2 : am_Post} (hC : Ct y cc2 nL2 ret2 d2 mc ms (.ref b :: As) n kd I J P post2) (hL : Lv own idx y ci np) (hM : Mc y cc2 nL2 ret2) (hd : decode cc pc = .ok (.invokevirtual idx, 3)) (hk : kd b = some (0, ci)) (hdd : d2 < d) (hAs : As.length = np) (hst : stk = As.reverse ++ .ref b :: st) (hw : (st.map fun v => v.category).sum ≤ 8) (hkc : mc + kc2 ≤ kc) (hks : ms + ks2 ≤ ks)
    (hx : ∀ E n' kd' I' J' P', post2 (.inr E) n' kd' I' J' P' → post (.inr E) n' kd' I' J' P')
    (k : ∀ v n' kd' I' J' P', post2 (.inl v) n' kd' I' J' P' → RuZ (K, []) own cc nL ret nm d post kc2 ks2 (pc + 3) ls (v.toList ++ st) n' kd' I' J' P') : RuZ (K, []) own cc nL ret nm d post kc ks pc ls stk n kd I J P := by
  intro p l e R s m args below meth c MC MS A D cA ad Qc XC free H locs cells slots lsC C r wf wl ws hl hc hs he
  have hroom := am_room C hdd hM.2.2.1
  have hrm := (cx_rm C).2.2
  have hts := cx_ts C
  have wsr : ∀ v ∈ (.ref b :: As), am_ok n v := fun v hv => ws v (by rw [hst]; rcases List.mem_cons.mp hv with e | h; exact e ▸ List.mem_append_right _ List.mem_cons_self; exact List.mem_append_left _ (List.mem_reverse.mpr h))
  have wst : ∀ v ∈ st, am_ok n v := fun v hv => ws v (by rw [hst]; exact List.mem_append_right _ (List.mem_cons_of_mem _ hv))
  have hb := callB_of (R := R) (s := s) (args := args) (Ts := gw) (ws := Cond.code y cc2 nL2 ret2 :: gw) (ws' := gw) (rm := ({ frames := d2, cells := mc, slots := ms, locals := 60 * d2 } : Room)) (mc := mc) (ms := ms) (own := own) (index := idx) np hts (am_good hM.1) rfl rfl rfl (hts _ hM.2.1) (hts _ hL.1) ⟨hM.2.2.2.1, hM.2.2.2.2, hL.2.2.2.2⟩ hroom
  have hcellB := va_recv (cx_K C) r.1 (a_cl ci hL.2.2.2.1) (q0 := b) (a := ad b) (ci := ci) (by rw [am_w_at (wf.1 b _ hk), am_e_obj hk])
  have hrun := vx_runV (C := aR ci) (g := F0 m pc lsC (stk.map (am_v ad))) (As := As.map (am_v ad)) (rest := st.map (am_v ad)) (b := ad b) (below := below) (meth := meth) (e := e) (locs := locs) (cells := cells) (slots := slots) ⟨cx_x C, cx_b C, cx_ml C, cx_own C, hts⟩ (hC l D cA ad H.size (cx_l C) wf wsr) ⟨hb, hts _ hL.2.1, hts _ hL.2.2.1⟩ ⟨am_blind, hcellB, fun U hU hW => am_pre (as := .ref b :: As) C r he.1.2 U hU hW⟩ rfl (by simp [hAs]) hl.1 (by rw [hst]; simp [am_v, List.map_reverse]) (lv_room (by rw [am_cats]; exact hw)) hd (by omega)
  exact am_went C r wl wst hl hc hs he hkc hks hrun hx k
theorem r_stat {y : MethodName} {cc2 : ByteArray} {nL2 : Nat} {ret2 : Option FieldType} {d2 mc ms kc2 ks2 idx np : Nat} {As stk : List Value} {post2 : am_Post} (hC : Ct y cc2 nL2 ret2 d2 mc ms As n kd I J P post2) (hL : Ls own idx y np) (hM : Mc y cc2 nL2 ret2) (hd : decode cc pc = .ok (.invokestatic idx, 3)) (hdd : d2 < d) (hAs : As.length = np) (hst : stk = As.reverse ++ st) (hw : (st.map fun v => v.category).sum ≤ 8) (hkc : mc + kc2 ≤ kc) (hks : ms + ks2 ≤ ks)
    (hx : ∀ E n' kd' I' J' P', post2 (.inr E) n' kd' I' J' P' → post (.inr E) n' kd' I' J' P')
    (k : ∀ v n' kd' I' J' P', post2 (.inl v) n' kd' I' J' P' → RuZ (K, []) own cc nL ret nm d post kc2 ks2 (pc + 3) ls (v.toList ++ st) n' kd' I' J' P') : RuZ (K, []) own cc nL ret nm d post kc ks pc ls stk n kd I J P := by
  intro p l e R s m args below meth c MC MS A D cA ad Qc XC free H locs cells slots lsC C r wf wl ws hl hc hs he
  have hroom := am_room C hdd hM.2.2.1
  have hrm := (cx_rm C).2.2
  have hts := cx_ts C
  have wsr : ∀ v ∈ As, am_ok n v := fun v hv => ws v (by rw [hst]; exact List.mem_append_left _ (List.mem_reverse.mpr hv))
  have wst : ∀ v ∈ st, am_ok n v := fun v hv => ws v (by rw [hst]; exact List.mem_append_right _ hv)
  have hb := callB_of (R := R) (s := s) (args := args) (Ts := gw) (ws := Cond.code y cc2 nL2 ret2 :: gw) (ws' := gw) (rm := ({ frames := d2, cells := mc, slots := ms, locals := 60 * d2 } : Room)) (mc := mc) (ms := ms) (own := own) (index := idx) np hts (am_good hM.1) rfl rfl rfl (hts _ hM.2.1) (hts _ hL.1) ⟨hM.2.2.2.1, hM.2.2.2.2, hL.2.2⟩ hroom
  have hrun := vx_runS (g := F0 m pc lsC (stk.map (am_v ad))) (As := As.map (am_v ad)) (rest := st.map (am_v ad)) (below := below) (meth := meth) (e := e) (locs := locs) (cells := cells) (slots := slots) ⟨cx_x C, cx_b C, cx_ml C, cx_own C, hts⟩ (hC l D cA ad H.size (cx_l C) wf wsr) ⟨hb, hts _ hL.2.1⟩ ⟨am_blind, fun U hU hW => am_pre (as := As) C r he.1.2 U hU hW⟩ rfl (by simp [hAs]) hl.1 (by rw [hst]; simp [List.map_reverse]) (lv_room (by rw [am_cats]; exact hw)) hd (by omega)
  exact am_went C r wl wst hl hc hs he hkc hks hrun hx k
end Rules
