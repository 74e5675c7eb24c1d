/-! CONSTRUCTORS, THROWS, Math, arraycopy -/
def Li (own : String) (idx : Nat) (y : MethodName) (np : Nat) : Prop := (Cond.methodLink own idx y ∈ gw ∨ ∃ host, (own, idx, y, host) ∈ nw) ∧ Cond.instanceMethod y ∈ gw ∧ y.name = "<init>" ∧ (parseMethodDescriptor y.desc).map (fun d => d.parameters.length) = some np
theorem am_vx {p : Program} {l : Launch} {e : Env} {R : Room} {s : State} {m : MethodId} {args : Array Value} {below : List Frame} {meth : Method} {c : Code} {H : Heap} {locs : List Loc} {cells slots mc ms : Nat} {g : JFrame} {rest : List Value} {Qa : State → Outcome → State → Prop} {XC : String → State → State → Prop} {free : Addr → Prop} (h : va_Run p l e R s m args below meth c H locs cells slots mc ms g rest Qa free) : vx_Run p l e R s m args below meth c H locs cells slots mc ms g rest Qa XC free := fun T hT X => Or.inl (h T hT X)
section Rules
variable {K : (Nat → ClassId) → Prop} {own : String} {cc : ByteArray} {nL : Nat} {ret : Option FieldType} {nm : String} {d kc ks pc : Nat} {post : am_Post} {ls : List (Option Value)} {st : List Value} {n : Nat} {kd : mK} {I : mI} {J : mJ} {P : mP}
theorem r_init {y : MethodName} {cc2 : ByteArray} {nL2 : Nat} {d2 mc ms kc2 ks2 idx np b : Nat} {As stk : List Value} {post2 : am_Post} (hC : Ct y cc2 nL2 none d2 mc ms (.ref b :: As) n kd I J P post2) (hL : Li own idx y np) (hM : Mc y cc2 nL2 none) (hd : decode cc pc = .ok (.invokespecial idx, 3)) (hdd : d2 < d) (hAs : As.length = np) (hst : stk = As.reverse ++ .ref b :: st) (hw : (st.map fun v => v.category).sum ≤ 8) (hkc : mc + kc2 ≤ kc) (hks : ms + ks2 ≤ ks)
    (hx : ∀ E n' kd' I' J' P', ¬ post2 (.inr E) n' kd' I' J' P')
    (k : ∀ v n' kd' I' J' P', post2 (.inl v) n' kd' I' J' P' → RuZ (K, []) own cc nL ret nm d post kc2 ks2 (pc + 3) ls (v.toList ++ st) n' kd' I' J' P') : RuZ (K, []) own cc nL ret nm d post kc ks pc ls stk n kd I J P := by
  intro p l e R s m args below meth c MC MS A D cA ad Qc XC free H locs cells slots lsC C r wf wl ws hl hc hs he
  have hroom := am_room C hdd hM.2.2.1
  have hrm := (cx_rm C).2.2
  have hts := cx_ts C
  have wsr : ∀ v ∈ (.ref b :: As), am_ok n v := fun v hv => ws v (by rw [hst]; rcases List.mem_cons.mp hv with e | h; exact e ▸ List.mem_append_right _ List.mem_cons_self; exact List.mem_append_left _ (List.mem_reverse.mpr h))
  have wst : ∀ v ∈ st, am_ok n v := fun v hv => ws v (by rw [hst]; exact List.mem_append_right _ (List.mem_cons_of_mem _ hv))
  have hMet := hC.met hx (l := l) (D := D) (cA := cA) (ad := ad) (sz := H.size) (cx_l C) wf wsr
  rcases hL.1 with hlk | ⟨host, hlk⟩
  · have hb := cwI (R := R) (s := s) (args := args) (Ts := gw) (ws := Cond.code y cc2 nL2 none :: gw) (ws' := gw) (rm := ({ frames := d2, cells := mc, slots := ms, locals := 60 * d2 } : Room)) (mc := mc) (ms := ms) (own := own) (index := idx) np hts (am_good hM.1) rfl rfl rfl (hts _ hM.2.1) (hts _ hlk) (hts _ hL.2.1) hL.2.2.1 ⟨hM.2.2.2.1, hM.2.2.2.2, hL.2.2.2⟩ hroom
    have hrun := va_runI (g := F0 m pc lsC (stk.map (am_v ad))) (As := As.map (am_v ad)) (rest := st.map (am_v ad)) (b := ad b) (below := below) (meth := meth) (e := e) (locs := locs) (cells := cells) (slots := slots) ⟨cx_x C, cx_b C, cx_ml C, cx_own C, hts⟩ hMet hb ⟨am_blind, fun U hU hW => am_pre (as := .ref b :: As) C r he.1.2 U hU hW⟩ rfl (by simp [hAs]) hl.1 (by rw [hst]; simp [am_v, List.map_reverse]) (lv_room (by rw [am_cats]; exact hw)) hd (by omega)
    exact am_went C r wl wst hl hc hs he hkc hks (am_vx hrun) (fun E n' kd' I' J' P' h => absurd h (hx E n' kd' I' J' P')) k
  · have hb := va_cnB (R := R) (s := s) (args := args) (Ts := gw) (ws := Cond.code y cc2 nL2 none :: gw) (ws' := gw) (rm := ({ frames := d2, cells := mc, slots := ms, locals := 60 * d2 } : Room)) (mc := mc) (ms := ms) (own := own) (host := host) (index := idx) np hts (am_good hM.1) rfl rfl rfl ((cx_N C).1 _ hlk) (hts _ hM.2.1) ⟨hM.2.2.2.1, hM.2.2.2.2, hL.2.2.2⟩ hroom
    have hrun := va_runIN (g := F0 m pc lsC (stk.map (am_v ad))) (As := As.map (am_v ad)) (rest := st.map (am_v ad)) (b := ad b) (below := below) (meth := meth) (e := e) (locs := locs) (cells := cells) (slots := slots) ⟨cx_x C, cx_b C, cx_ml C, cx_own C, hts⟩ hMet ⟨hb, hL.2.2.1, hts _ hL.2.1⟩ ⟨am_blind, fun U hU hW => am_pre (as := .ref b :: As) C r he.1.2 U hU hW⟩ rfl (by simp [hAs]) hl.1 (by rw [hst]; simp [am_v, List.map_reverse]) (lv_room (by rw [am_cats]; exact hw)) hd (by omega)
    exact am_went C r wl wst hl hc hs he hkc hks (am_vx hrun) (fun E n' kd' I' J' P' h => absurd h (hx E n' kd' I' J' P')) k
theorem r_obj {idx b : Nat} (hd : decode cc pc = .ok (.invokespecial idx, 3)) (hlk : Cond.methodLink own idx Lib.objectInit ∈ gw) (hin : Cond.instanceMethod Lib.objectInit ∈ gw) (hco : Cond.code Lib.objectInit ⟨#[0xb1]⟩ 1 none ∈ gw) (hdd : 0 < d) (hw : (st.map fun v => v.category).sum ≤ 8) (k : RuZ (K, []) own cc nL ret nm d post kc ks (pc + 3) ls st n kd I J P) : RuZ (K, []) own cc nL ret nm d post kc ks pc ls (.ref b :: st) n kd I J P := by
  intro p l e R s m args below meth c MC MS A D cA ad Qc XC free H locs cells slots lsC C r wf wl ws hl hc hs he
  have hrm := cx_rm C
  have hts := cx_ts C
  have hw' : ((st.map (am_v ad)).map fun v => v.category).sum ≤ 8 := by rw [am_cats]; exact hw
  exact W.objInit (cx_x C) (cx_b C) (cx_own C) (hts _ hlk) (hts _ hin) (hts _ hco) rfl (hl.1.trans (cx_ml C).symm) rfl hd (by omega) (by have := lv_room (m := m) (pc := pc) (ls := lsC) (rest := st.map (am_v ad)) hw'; have h2 := hrm.2.1; show 2 * (F0 m pc lsC (Value.ref (ad b) :: st.map (am_v ad))).monitorRoom + _ + 12 ≤ R.locals; have h3 : (F0 m pc lsC (Value.ref (ad b) :: st.map (am_v ad))).monitorRoom = (F0 m pc lsC (st.map (am_v ad))).monitorRoom := rfl; rw [h3]; omega)
    (k p l e R s m args below meth c MC MS A D cA ad Qc XC free H locs cells slots lsC C r wf wl (ok_t ws) hl hc hs he)
theorem r_throw {cls : String} {names : List String} {ik ic : Nat} (d0 : decode cc pc = .ok (.new ik, 3)) (d3 : decode cc (pc + 3) = .ok (.dup, 1)) (d4 : decode cc (pc + 4) = .ok (.invokespecial ic, 3)) (d7 : decode cc (pc + 7) = .ok (.athrow, 1)) (hcls : Bundle.fit cls = true) (hnames : ∀ n ∈ names, Bundle.fit n = true) (hlk : Cond.classLink own ik cls ∈ gw) (hini : Cond.initialized cls ∈ gw) (h1 : ∀ w ∈ (vx_at0 own ic cls names).filter goodWord, w ∈ gw) (h2 : ∀ w ∈ (vx_at0 own ic cls names).filter (fun w => !goodWord w), w ∈ xc.map (fun X => Cond.castable X X) ++ xd.map Cond.declares)
    (hdd : names.length + 3 < d) (hw : (st.map fun v => v.category).sum ≤ 8) (hkc : 1 ≤ kc) (hks : 6 ≤ ks) (h : post (.inr cls) n kd I J P) : RuZ (K, []) own cc nL ret nm d post kc ks pc ls st n kd I J P := by
  intro p l e R s m args below meth c MC MS A D cA ad Qc XC free H locs cells slots lsC C r wf wl ws hl hc hs he
  have hrm := cx_rm C
  have hts := cx_ts C
  have hB : ∀ w ∈ xc.map (fun X => Cond.castable X X) ++ xd.map Cond.declares, w.before args s = true ∧ w.onTables = true := by
    intro w hw9
    rcases List.mem_append.mp hw9 with h9 | h9
    · obtain ⟨X, hX, rfl⟩ := List.mem_map.mp h9
      exact ⟨((cx_N C).2.1 X hX).use rfl, rfl⟩
    · obtain ⟨y, hy, rfl⟩ := List.mem_map.mp h9
      exact ⟨((cx_N C).2.2.1 y hy).use rfl, rfl⟩
  have hat : ∀ w ∈ vx_at0 own ic cls names, w.before args s = true := vx_hat (fun w hq => hts w (h1 w hq)) h2 (fun w hq => (hB w hq).1)
  have hgood : ∀ w ∈ Cond.classLink own ik cls :: Cond.initialized cls :: vx_at0 own ic cls names, vx_ot w = true := by
    intro w hq
    unfold vx_ot
    rcases List.mem_cons.mp hq with rfl | hq
    · rw [gw_good _ hlk, Bool.or_true]
    · rcases List.mem_cons.mp hq with rfl | hq
      · rw [gw_good _ hini, Bool.or_true]
      · by_cases hg : goodWord w = true
        · rw [hg, Bool.or_true]
        · rw [(hB w (h2 w (List.mem_filter.mpr ⟨hq, by simp [hg]⟩))).2, Bool.true_or]
  refine vx_throw0 (cls := cls) (names := names) (ik := ik) (ic := ic) (A := A) (cx_x C) (cx_b C) (cx_l C) (cx_own C) hcls hnames (hts _ hlk) (hts _ hini) hat hgood (cx_S C).1 (cx_S C).2.1 r.2.2 (hl.1.trans (cx_ml C).symm) d0 d3 d4 d7 (fun x hx => by rw [cx_ex C] at hx; cases hx) (by omega) (by rw [am_cats]; omega) (by omega) (by omega) (cx_lk C) (fun t hA hz hk => ?_) (fun z hz => he.1.1 _ (r.2.2.2.2 z hz)) (by omega) (by omega)
  exact he.2.2 cls n kd I J P ad t.heap locs h ⟨fun k q hq => (r.1 k q hq).kept (hk _ (r.1 k q hq).lt), r.2.1, ⟨Nat.le_trans r.2.2.1 hz, fun q h1 h2 => (hk q (Nat.lt_of_lt_of_le h1 r.2.2.1)).trans (r.2.2.2.1 q h1 h2), r.2.2.2.2⟩⟩ wf (Nat.le_refl n) (fun _ _ => rfl) t rfl hA
end Rules
