/-! CALLS WHOSE THROWS ARE CAUGHT; calls of methods with a table of handlers -/
section Rules
variable {Z : am_Z} {K : (Nat → ClassId) → Prop} {hh : List (Nat × Nat × Nat × Nat)} {own : String} {cc : ByteArray} {nL : Nat} {ret : Option FieldType} {nm : String} {d kc ks pc : Nat} {post : am_Post} {ls : List (Option Value)} {st : List Value} {n : Nat} {kd : mK} {I : mI} {J : mJ} {P : mP}
variable {p : Program} {l : Launch} {e : Env} {R : Room} {s : State} {m : MethodId} {args : Array Value} {below : List Frame} {meth : Method} {c : Code} {MC MS : Nat} {A : Nat → Prop} {D : va_G} {cA : Nat → ClassId} {ad : Nat → Nat} {Qc : Array Value → State → Outcome → State → Prop} {XC : String → State → State → Prop} {free : Addr → Prop} {H : Heap} {locs : List Loc} {cells slots : Nat} {lsC : Array Slot}
theorem am_hFZ (C : am_Cx Z own cc nL ret nm d MC MS A D cA p l R s m args meth c) (r : am_R D cA ad n kd I J P A s.heap H locs) : ∀ q, va_A (am_w cA ad n kd I J P) H.size q → A q := by
  rintro q (⟨k, e, hk⟩ | hq)
  · exact r.2.1.2 k _ hk
  · exact cx_A C q (Nat.le_trans r.2.2.1 hq)
theorem am_preZ {as : List Value} (C : am_Cx Z own cc nL ret nm d MC MS A D cA p l R s m args meth c) (r : am_R D cA ad n kd I J P A s.heap H locs) (hst : am_St cA ad) : ∀ U : State, U.heap = H → s.WarmedH U.vm → am_Pc D cA ad as n kd I J P H.size (as.map (am_v ad)).toArray U := by
  intro U hU hW
  refine ⟨rfl, by rw [hU], by rw [hU]; exact r.1, va_K.moved hW.alike (cx_K C), r.2.1.weaken (fun _ _ _ _ => trivial), ?_, (cx_N C).warm hW, hst⟩
  have h1 : am_S A cA s H := (cx_S C).kept (fun a ha hn => r.2.2.2.1 a ha hn)
  rw [hU]
  exact (h1.warm hW).narrow (am_hFZ C r)
theorem am_roomZ {d2 nL2 : Nat} (C : am_Cx Z own cc nL ret nm d MC MS A D cA p l R s m args meth c) (hd : d2 < d) (hn : nL2 ≤ 41) : d2 + 1 ≤ R.frames ∧ 8 + (nL2 + 11) + 60 * d2 ≤ R.locals := by
  have h1 := (cx_rm C).1
  have h2 := (cx_rm C).2.1
  omega
/-- what catches: an entry of the table, those ahead of it that let the exception by, the handler's code -/
def hnd (own : String) (cc : ByteArray) (nL pc : Nat) (hh : List (Nat × Nat × Nat × Nat)) (E : String) (v : Int32) : Prop :=
  E ∈ xc ∧ ∃ (pre : List ExceptionTableEntry) (x : ExceptionTableEntry) (suf : List ExceptionTableEntry), tableOf hh = pre ++ x :: suf ∧ (∀ z ∈ pre, z.catchType ≠ 0 ∧ E = "java/lang/IllegalArgumentException" ∧ Cond.classLink own z.catchType "java/util/NoSuchElementException" ∈ gw) ∧ covers x pc = true ∧ x.catchType ≠ 0 ∧ Cond.classLink own x.catchType E ∈ gw ∧
    ∃ w : Nat, ((∃ k4 : Fin 4, decode cc x.handlerPc = .ok (.astore_n k4, 1) ∧ (k4 : Nat) < nL ∧ w = 1) ∨ (∃ i : Nat, decode cc x.handlerPc = .ok (.astore i, 2) ∧ i < nL ∧ w = 2)) ∧ (∃ z : Int, decode cc (x.handlerPc + w) = .ok (.iconst z, 1) ∧ Int32.ofInt z = v) ∧ decode cc (x.handlerPc + w + 1) = .ok (.ireturn, 1)
set_option maxHeartbeats 4000000 in
/-- a call whose throw is caught, and answered by a number -/
theorem r_virtC {y : MethodName} {cc2 : ByteArray} {nL2 : Nat} {ret2 : Option FieldType} {d2 mc ms kc2 ks2 idx ci np b : Nat} {As stk : List Value} {post2 : am_Post} (hret : ret = some .int) (hC : Ct y cc2 nL2 ret2 d2 mc ms (.ref b :: As) n kd I J P post2) (hL : Lv own idx y ci np) (hM : Mc y cc2 nL2 ret2) (hd : decode cc pc = .ok (.invokevirtual idx, 3)) (hk : kd b = some (0, ci)) (hdd : d2 < d) (hAs : As.length = np) (hst : stk = As.reverse ++ .ref b :: st) (hw : (st.map fun v => v.category).sum ≤ 8) (hkc : mc + kc2 ≤ kc) (hks : ms + ks2 ≤ ks)
    (hx : ∀ E n' kd' I' J' P', post2 (.inr E) n' kd' I' J' P' → ∃ v : Int32, hnd own cc nL pc hh E v ∧ post (.inl (some (.int v))) n' kd' I' J' P')
    (k : ∀ v n' kd' I' J' P', post2 (.inl v) n' kd' I' J' P' → RuZ (K, hh) own cc nL ret nm d post kc2 ks2 (pc + 3) ls (v.toList ++ st) n' kd' I' J' P') : RuZ (K, hh) own cc nL ret nm d post kc ks pc ls stk n kd I J P := by
  subst hret
  intro p l e R s m args below meth c MC MS A D cA ad Qc XC free H locs cells slots lsC C r wf wl ws hl hc hs he
  have hroom := am_roomZ C hdd hM.2.2.1
  have hrm := (cx_rm C).2.2
  have hts := cx_ts C
  have wsr : ∀ v ∈ (.ref b :: As), am_ok n v := fun v hv => ws v (by rw [hst]; rcases List.mem_cons.mp hv with e | h; exact e ▸ List.mem_append_right _ List.mem_cons_self; exact List.mem_append_left _ (List.mem_reverse.mpr h))
  have wst : ∀ v ∈ st, am_ok n v := fun v hv => ws v (by rw [hst]; exact List.mem_append_right _ (List.mem_cons_of_mem _ hv))
  have hb := callB_of (R := R) (s := s) (args := args) (Ts := gw) (ws := Cond.code y cc2 nL2 ret2 :: gw) (ws' := gw) (rm := ({ frames := d2, cells := mc, slots := ms, locals := 60 * d2 } : Room)) (mc := mc) (ms := ms) (own := own) (index := idx) np hts (am_good hM.1) rfl rfl rfl (hts _ hM.2.1) (hts _ hL.1) ⟨hM.2.2.2.1, hM.2.2.2.2, hL.2.2.2.2⟩ hroom
  have hcellB := va_recv (cx_K C) r.1 (a_cl ci hL.2.2.2.1) (q0 := b) (a := ad b) (ci := ci) (by rw [am_w_at (wf.1 b _ hk), am_e_obj hk])
  have hr := vx_runV (C := aR ci) (g := F0 m pc lsC (stk.map (am_v ad))) (As := As.map (am_v ad)) (rest := st.map (am_v ad)) (b := ad b) (below := below) (meth := meth) (e := e) (locs := locs) (cells := cells) (slots := slots) ⟨cx_x C, cx_b C, cx_ml C, cx_own C, hts⟩ (hC l D cA ad H.size (cx_l C) wf wsr) ⟨hb, hts _ hL.2.1, hts _ hL.2.2.1⟩ ⟨am_blind, hcellB, fun U hU hW => am_preZ (as := .ref b :: As) C r he.1.2 U hU hW⟩ rfl (by simp [hAs]) hl.1 (by rw [hst]; simp [am_v, List.map_reverse]) (lv_room (by rw [am_cats]; exact hw)) hd (by omega)
  have hF := am_hFZ C r
  intro T hT X
  rcases hr T hT X with ⟨v, st₀, t, T', L, h0, X', hL, e1, e2, hq, hst⟩ | ⟨q, st₀, t, T', L, E, ce, h0, X', hL, e1, e2, hq, hce, hcv, hcl, hst⟩
  · obtain ⟨v2, n', kd', I', J', P', ad', hv, hp, hok, hwf, hn, had, hP1, hD1, hF1⟩ := hq
    cases hv
    obtain ⟨k1, k2, k3⟩ := vx_keep h0 e1 r.2.2 (fun q _ h => hF q h) hF hL hF1
    have r2 : am_R D cA ad' n' kd' I' J' P' A s.heap T'.heap (locs ++ L) := ⟨by rw [e1]; exact hP1, hD1.weaken (fun _ q _ h => hF q.1 h), k3⟩
    have hstk : (v2.map (am_v ad')).toList ++ st.map (am_v ad) = (v2.toList ++ st).map (am_v ad') := by
      rw [List.map_append, ← am_vs_eq had wst]
      cases v2 <;> rfl
    have hW := k v2 n' kd' I' J' P' hp p l e R s m args below meth c MC MS A D cA ad' Qc XC free T'.heap (locs ++ L) (cells + mc) (slots + ms) lsC C r2 hwf (fun w hw => (wl w hw).mono hn) (fun w hw => by
      rcases List.mem_append.mp hw with h | h
      · cases v2 with
        | none => cases h
        | some z => simp at h; exact h ▸ hok z rfl
      · exact (wst w h).mono hn) ⟨hl.1, hl.2.1, fun i w hw => by rw [am_v_eq had (wl w (List.mem_of_getElem? hw))]; exact hl.2.2 i w hw⟩ (by omega) (by omega) (he.on hn had)
    obtain ⟨t2, a1, b1⟩ := hW T' rfl X'
    refine ⟨t2, hst t2 ?_, b1⟩
    have : ({ F0 m pc lsC (stk.map (am_v ad)) with pc := (F0 m pc lsC (stk.map (am_v ad))).pc + 3, stack := (v2.map (am_v ad')).toList ++ st.map (am_v ad) } : JFrame) = F0 m (pc + 3) lsC ((v2.toList ++ st).map (am_v ad')) := by rw [hstk]
    rw [this]
    exact a1
  · obtain ⟨n', kd', I', J', P', ad', hp, hwf, hn, had, hP1, hD1, hF1⟩ := hq
    obtain ⟨k1, k2, k3⟩ := vx_keep h0 e1 r.2.2 (fun q _ h => hF q h) hF hL hF1
    have r2 : am_R D cA ad' n' kd' I' J' P' A s.heap T'.heap (locs ++ L) := ⟨by rw [e1]; exact hP1, hD1.weaken (fun _ q _ h => hF q.1 h), k3⟩
    obtain ⟨v, ⟨hE, pre, x, suf, hsp, hpass, hcov, hct, hlk, w, hast, ⟨zc, hic, hicv⟩, hir⟩, hpost⟩ := hx E n' kd' I' J' P' hp
    have hret3 : ∀ ls9 : Array Slot, W p l e R s m args below meth c T'.heap (locs ++ L) (cells + mc) (slots + ms) (vx_MQ below Qc XC args s MC MS free) (F0 m (x.handlerPc + w) ls9 []) := fun ls9 => by
      refine lv_iconst (cx_x C) (cx_b C) hic hicv ?_
      refine W.widen (show cells + mc ≤ MC by omega) (show slots + ms ≤ MS by omega) (vx_ret ?_)
      exact W.iret (cx_x C) (cx_b C) (cx_r C) (fun t ht hW => he.2.1 _ n' kd' I' J' P' ad' T'.heap (locs ++ L) hpost r2 hwf (fun w e => by cases e; exact am_ok_i) hn had t ht hW) (fun q hq => he.1.1 _ (r2.2.2.2.2 q hq)) hir (cx_lk C)
    have hcatch := vx_catch (own := own) (name := E) (E := E) (ce := ce) (q := q) (p := p) (l := l) (e := e) (R := R) (s := s) (m := m) (args := args) (below := below) (meth := meth) (c := c) (H := T'.heap) (locs := locs ++ L) (cells := cells + mc) (slots := slots + ms) (Q := vx_MQ below Qc XC args s MC MS free) (ls := lsC) (rest := st.map (am_v ad)) (pc := pc) (cx_own C) pre x suf (by rw [cx_ex C]; exact hsp)
      (fun z hz => Or.inr ⟨(hpass z hz).1, "java/util/NoSuchElementException", hts _ (hpass z hz).2.2, by rw [(hpass z hz).2.1]; exact (cx_N C).2.2.2⟩) hcov hct (hts _ hlk) (((cx_N C).2.1 E hE).use rfl) (by rw [e1]; exact hce) hcv hcl (by
        rcases hast with ⟨k4, hd1, hk4, rfl⟩ | ⟨i, hd1, hi, rfl⟩
        · exact lv_astore_n (cx_x C) (cx_b C) hd1 rfl hl.has hk4 rfl (fun ls9 _ => hret3 ls9)
        · exact lv_astore (cx_x C) (cx_b C) hd1 hl.has hi rfl (fun ls9 _ => hret3 ls9))
    obtain ⟨t2, a1, b1⟩ := hcatch T' rfl X'
    exact ⟨t2, hst.trans a1, b1⟩
def Mw (y : MethodName) (cc : ByteArray) (nL : Nat) (hh : List (Nat × Nat × Nat × Nat)) : Prop := Cond.codeWith y cc nL (some .int) hh ∈ gw ∧ Cond.initialized y.cls ∈ gw ∧ nL ≤ 41 ∧ y.cls ≠ "java/lang/invoke/MethodHandle" ∧ y.cls ≠ "java/lang/invoke/VarHandle"
theorem r_statW {hh2 : List (Nat × Nat × Nat × Nat)} {y : MethodName} {cc2 : ByteArray} {nL2 : Nat} {d2 mc ms kc2 ks2 idx np : Nat} {As stk : List Value} {post2 : am_Post} (hC : CtW hh2 y cc2 nL2 (some .int) d2 mc ms As n kd I J P post2) (hL : Ls own idx y np) (hM : Mw y cc2 nL2 hh2) (hd : decode cc pc = .ok (.invokestatic idx, 3)) (hdd : d2 < d) (hAs : As.length = np) (hst : stk = As.reverse ++ st) (hw : (st.map fun v => v.category).sum ≤ 8) (hkc : mc + kc2 ≤ kc) (hks : ms + ks2 ≤ ks)
    (hx : ∀ E n' kd' I' J' P', post2 (.inr E) n' kd' I' J' P' → post (.inr E) n' kd' I' J' P')
    (k : ∀ v n' kd' I' J' P', post2 (.inl v) n' kd' I' J' P' → RuZ (K, []) own cc nL ret nm d post kc2 ks2 (pc + 3) ls (v.toList ++ st) n' kd' I' J' P') : RuZ (K, []) own cc nL ret nm d post kc ks pc ls stk n kd I J P := by
  intro p l e R s m args below meth c MC MS A D cA ad Qc XC free H locs cells slots lsC C r wf wl ws hl hc hs he
  have hroom := am_room C hdd hM.2.2.1
  have hrm := (cx_rm C).2.2
  have hts := cx_ts C
  have wsr : ∀ v ∈ As, am_ok n v := fun v hv => ws v (by rw [hst]; exact List.mem_append_left _ (List.mem_reverse.mpr hv))
  have wst : ∀ v ∈ st, am_ok n v := fun v hv => ws v (by rw [hst]; exact List.mem_append_right _ hv)
  have hg : GoodIn gw (va_wsS own idx y (Cond.codeWith y cc2 nL2 (some .int) hh2 :: gw)) := fun w hw => by
    have hm : w ∈ gw := by
      rcases List.mem_append.mp hw with h | h
      · rcases List.mem_cons.mp h with e | h
        · exact e ▸ hL.1
        · rcases List.mem_cons.mp h with e | h
          · exact e ▸ hL.2.1
          · rcases List.mem_cons.mp h with e | h
            · exact e ▸ hM.2.1
            · cases h
      · rcases List.mem_cons.mp h with e | h
        · exact e ▸ hM.1
        · exact h
    exact ⟨hm, good_of_word (gw_good w hm)⟩
  have hb := vx_cwSW (R := R) (s := s) (args := args) (Ts := gw) (ws := Cond.codeWith y cc2 nL2 (some .int) hh2 :: gw) (ws' := gw) (rm := ({ frames := d2, cells := mc, slots := ms, locals := 60 * d2 } : Room)) (mc := mc) (ms := ms) (own := own) (index := idx) np hts hg rfl rfl rfl ⟨hM.2.2.2.1, hM.2.2.2.2, hL.2.2⟩ hroom
  have hrun := vx_runSX (hh := hh2) (g := F0 m pc lsC (stk.map (am_v ad))) (As := As.map (am_v ad)) (rest := st.map (am_v ad)) (below := below) (meth := meth) (e := e) (locs := locs) (cells := cells) (slots := slots) ⟨cx_x C, cx_b C, cx_ml C, cx_own C, hts⟩ (hC l D cA ad H.size (cx_l C) wf wsr) hb ⟨am_blind, fun U hU hW => am_pre (as := As) C r he.1.2 U hU hW⟩ rfl (by simp [hAs]) hl.1 (by rw [hst]; simp [List.map_reverse]) (lv_room (by rw [am_cats]; exact hw)) hd (by omega)
  exact am_went C r wl wst hl hc hs he hkc hks hrun hx k
end Rules
theorem cl_L_13 : Cond.classLink RL 13 "java/lang/IllegalArgumentException" ∈ gw := (gt3 108 rfl rfl)
theorem cl_L_18 : Cond.classLink RL 18 "java/util/NoSuchElementException" ∈ gw := (gt4 135 rfl rfl)
theorem mw_street : Mw yL_street cL_street 4 [(0, 9, 12, 13)] := ⟨(gt3 107 rfl rfl), (gt1 0 rfl rfl), by decide, by decide, by decide⟩
theorem mw_count : Mw yL_count cL_count 4 [(0, 9, 12, 18)] := ⟨(gt4 134 rfl rfl), (gt1 0 rfl rfl), by decide, by decide, by decide⟩
theorem mw_house : Mw yL_house cL_house 5 [(0, 10, 13, 18)] := ⟨(gt4 157 rfl rfl), (gt1 0 rfl rfl), by decide, by decide, by decide⟩
theorem mw_become : Mw yL_become cL_become 6 [(0, 12, 15, 18)] := ⟨(gt4 173 rfl rfl), (gt1 0 rfl rfl), by decide, by decide, by decide⟩
theorem mw_mute : Mw yL_mute cL_mute 5 [(0, 17, 20, 18)] := ⟨(gt4 193 rfl rfl), (gt1 0 rfl rfl), by decide, by decide, by decide⟩
theorem mw_letter : Mw yL_letter cL_letter 5 [(0, 10, 13, 18)] := ⟨(gt4 200 rfl rfl), (gt1 0 rfl rfl), by decide, by decide, by decide⟩
theorem mw_number : Mw yL_number cL_number 5 [(0, 10, 13, 18)] := ⟨(gt4 211 rfl rfl), (gt1 0 rfl rfl), by decide, by decide, by decide⟩
theorem mw_may : Mw yL_may cL_may 4 [(0, 9, 12, 18)] := ⟨(gt4 219 rfl rfl), (gt1 0 rfl rfl), by decide, by decide, by decide⟩
theorem mw_holds : Mw yL_holds cL_holds 6 [(0, 11, 14, 18), (0, 11, 18, 13)] := ⟨(gt4 226 rfl rfl), (gt1 0 rfl rfl), by decide, by decide, by decide⟩
theorem mw_looks : Mw yL_looks cL_looks 4 [(0, 9, 12, 18)] := ⟨(gt4 238 rfl rfl), (gt1 0 rfl rfl), by decide, by decide, by decide⟩
theorem mw_hints : Mw yL_hints cL_hints 4 [(0, 9, 12, 18)] := ⟨(gt5 35 rfl rfl), (gt1 0 rfl rfl), by decide, by decide, by decide⟩
theorem mw_post : Mw yL_post cL_post 5 [(0, 10, 13, 18), (0, 10, 17, 13)] := ⟨(gt5 46 rfl rfl), (gt1 0 rfl rfl), by decide, by decide, by decide⟩
theorem mw_feud : Mw yL_feud cL_feud 6 [(0, 12, 15, 18), (0, 12, 19, 13)] := ⟨(gt5 63 rfl rfl), (gt1 0 rfl rfl), by decide, by decide, by decide⟩
theorem mw_years : Mw yL_years cL_years 5 [(0, 10, 13, 13)] := ⟨(gt5 87 rfl rfl), (gt1 0 rfl rfl), by decide, by decide, by decide⟩
theorem mw_proof : Mw yL_proof cL_proof 4 [(0, 9, 12, 18)] := ⟨(gt5 108 rfl rfl), (gt1 0 rfl rfl), by decide, by decide, by decide⟩
theorem mw_build : Mw yL_build cL_build 4 [(0, 9, 12, 18), (0, 9, 15, 13)] := ⟨(gt5 128 rfl rfl), (gt1 0 rfl rfl), by decide, by decide, by decide⟩
theorem mw_changed : Mw yL_changed cL_changed 7 [(0, 14, 17, 18), (0, 14, 21, 13)] := ⟨(gt5 154 rfl rfl), (gt1 0 rfl rfl), by decide, by decide, by decide⟩
theorem mw_walk : Mw yL_walk cL_walk 6 [(0, 12, 15, 13)] := ⟨(gt5 169 rfl rfl), (gt1 0 rfl rfl), by decide, by decide, by decide⟩
theorem mw_door : Mw yL_door cL_door 4 [(0, 9, 12, 18)] := ⟨(gt5 202 rfl rfl), (gt1 0 rfl rfl), by decide, by decide, by decide⟩
theorem mw_ring : Mw yL_ring cL_ring 5 [(0, 10, 13, 18)] := ⟨(gt5 209 rfl rfl), (gt1 0 rfl rfl), by decide, by decide, by decide⟩
theorem mw_written : Mw yL_written cL_written 4 [(0, 9, 12, 18)] := ⟨(gt5 234 rfl rfl), (gt1 0 rfl rfl), by decide, by decide, by decide⟩
theorem mw_left : Mw yL_left cL_left 5 [(0, 10, 13, 18), (0, 10, 17, 13)] := ⟨(gt6 29 rfl rfl), (gt1 0 rfl rfl), by decide, by decide, by decide⟩
theorem mw_look : Mw yL_look cL_look 5 [(0, 10, 13, 18)] := ⟨(gt6 41 rfl rfl), (gt1 0 rfl rfl), by decide, by decide, by decide⟩
theorem mw_plant : Mw yL_plant cL_plant 5 [(0, 10, 13, 13)] := ⟨(gt6 52 rfl rfl), (gt1 0 rfl rfl), by decide, by decide, by decide⟩
theorem mw_tried : Mw yL_tried cL_tried 7 [(0, 14, 17, 18), (0, 14, 21, 13)] := ⟨(gt6 74 rfl rfl), (gt1 0 rfl rfl), by decide, by decide, by decide⟩
