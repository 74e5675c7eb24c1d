/-! THE MACHINE OVER THE MEMORY BY IDS. Ru ..: from pc with locals ls, stack st and this memory the method comes to its end with 'post' (returned value or thrown class, memory behind). -/
abbrev am_Post : Type := (Option Value) ⊕ String → Nat → mK → mI → mJ → mP → Prop
/-- Z: what is known of the numbers kept in cA (the law's script), the method's table of handlers -/
abbrev am_Z : Type := ((Nat → ClassId) → Prop) × List (Nat × Nat × Nat × Nat)
abbrev kT : am_Z := (fun _ => True, [])
def am_Cx (Z : am_Z) (own : String) (cc : ByteArray) (nL : Nat) (ret : Option FieldType) (nm : String) (d MC MS : Nat) (A : Nat → Prop) (D : va_G) (cA : Nat → ClassId) (p : Program) (l : Launch) (R : Room) (s : State) (m : MethodId) (args : Array Value) (meth : Method) (c : Code) : Prop :=
  p.tables.exec = Jvm.exec ∧ c.code = cc ∧ c.maxLocals = nL ∧ meth.sig.returnType = ret ∧ (∀ w ∈ gw, w.before args s = true) ∧ s.vm.findClass own = some m.cls ∧ meth.locks = false ∧ meth.name = nm ∧ c.exceptionTable.toList = tableOf Z.2 ∧ l.stackTraces = false ∧ (d ≤ R.frames ∧ 60 * d ≤ R.locals ∧ MC ≤ R.cells ∧ MS ≤ R.slots) ∧ va_K D vwCl (am_ty cA) s ∧ (∀ q, s.heap.size ≤ q → A q) ∧ am_S A cA s s.heap ∧ am_N s ∧ Z.1 cA
section CxOf
variable {Z : am_Z} {own : String} {cc : ByteArray} {nL : Nat} {ret : Option FieldType} {nm : String} {d MC MS : Nat} {A : Nat → Prop} {D : va_G} {cA : Nat → ClassId} {p : Program} {l : Launch} {R : Room} {s : State} {m : MethodId} {args : Array Value} {meth : Method} {c : Code}
theorem cx_x (C : am_Cx Z own cc nL ret nm d MC MS A D cA p l R s m args meth c) : p.tables.exec = Jvm.exec := C.1
theorem cx_b (C : am_Cx Z own cc nL ret nm d MC MS A D cA p l R s m args meth c) : c.code = cc := C.2.1
theorem cx_ml (C : am_Cx Z own cc nL ret nm d MC MS A D cA p l R s m args meth c) : c.maxLocals = nL := C.2.2.1
theorem cx_r (C : am_Cx Z own cc nL ret nm d MC MS A D cA p l R s m args meth c) : meth.sig.returnType = ret := C.2.2.2.1
theorem cx_ts (C : am_Cx Z own cc nL ret nm d MC MS A D cA p l R s m args meth c) : ∀ w ∈ gw, w.before args s = true := C.2.2.2.2.1
theorem cx_own (C : am_Cx Z own cc nL ret nm d MC MS A D cA p l R s m args meth c) : s.vm.findClass own = some m.cls := C.2.2.2.2.2.1
theorem cx_lk (C : am_Cx Z own cc nL ret nm d MC MS A D cA p l R s m args meth c) : meth.locks = false := C.2.2.2.2.2.2.1
theorem cx_nm (C : am_Cx Z own cc nL ret nm d MC MS A D cA p l R s m args meth c) : meth.name = nm := C.2.2.2.2.2.2.2.1
theorem cx_ex (C : am_Cx Z own cc nL ret nm d MC MS A D cA p l R s m args meth c) : c.exceptionTable.toList = tableOf Z.2 := C.2.2.2.2.2.2.2.2.1
theorem cx_l (C : am_Cx Z own cc nL ret nm d MC MS A D cA p l R s m args meth c) : l.stackTraces = false := C.2.2.2.2.2.2.2.2.2.1
theorem cx_rm (C : am_Cx Z own cc nL ret nm d MC MS A D cA p l R s m args meth c) : d ≤ R.frames ∧ 60 * d ≤ R.locals ∧ MC ≤ R.cells ∧ MS ≤ R.slots := C.2.2.2.2.2.2.2.2.2.2.1
theorem cx_K (C : am_Cx Z own cc nL ret nm d MC MS A D cA p l R s m args meth c) : va_K D vwCl (am_ty cA) s := C.2.2.2.2.2.2.2.2.2.2.2.1
theorem cx_A (C : am_Cx Z own cc nL ret nm d MC MS A D cA p l R s m args meth c) : ∀ q, s.heap.size ≤ q → A q := C.2.2.2.2.2.2.2.2.2.2.2.2.1
theorem cx_S (C : am_Cx Z own cc nL ret nm d MC MS A D cA p l R s m args meth c) : am_S A cA s s.heap := C.2.2.2.2.2.2.2.2.2.2.2.2.2.1
theorem cx_N (C : am_Cx Z own cc nL ret nm d MC MS A D cA p l R s m args meth c) : am_N s := C.2.2.2.2.2.2.2.2.2.2.2.2.2.2.1
theorem cx_Z (C : am_Cx Z own cc nL ret nm d MC MS A D cA p l R s m args meth c) : Z.1 cA := C.2.2.2.2.2.2.2.2.2.2.2.2.2.2.2
end CxOf
def am_End (D : va_G) (cA : Nat → ClassId) (ad : Nat → Nat) (n : Nat) (A : Nat → Prop) (s : State) (args : Array Value) (post : am_Post) (Qc : Array Value → State → Outcome → State → Prop) (XC : String → State → State → Prop) (free : Addr → Prop) : Prop :=
  ((∀ q, A q → free q) ∧ am_St cA ad) ∧
  (∀ (v : Option Value) (n' : Nat) (kd' : mK) (I' : mI) (J' : mJ) (P' : mP) (ad' : Nat → Nat) (H' : Heap) (locs' : List Loc), post (.inl v) n' kd' I' J' P' → am_R D cA ad' n' kd' I' J' P' A s.heap H' locs' → am_WF n' kd' P' → (∀ w, v = some w → am_ok n' w) → n ≤ n' → (∀ a, a < n ∨ 1000000 ≤ a → ad' a = ad a) → ∀ t : State, t.heap = H' → s.WarmedH t.vm → Qc args s (.returned (v.map (am_v ad'))) t) ∧
  (∀ (E : String) (n' : Nat) (kd' : mK) (I' : mI) (J' : mJ) (P' : mP) (ad' : Nat → Nat) (H' : Heap) (locs' : List Loc), post (.inr E) n' kd' I' J' P' → am_R D cA ad' n' kd' I' J' P' A s.heap H' locs' → am_WF n' kd' P' → n ≤ n' → (∀ a, a < n ∨ 1000000 ≤ a → ad' a = ad a) → ∀ t : State, t.heap = H' → s.vm.Alike t.vm → XC E s t)
theorem am_End.on {D : va_G} {cA : Nat → ClassId} {ad ad1 : Nat → Nat} {n n1 : Nat} {A : Nat → Prop} {s : State} {args : Array Value} {post : am_Post} {Qc : Array Value → State → Outcome → State → Prop} {XC : String → State → State → Prop} {free : Addr → Prop} (h : am_End D cA ad n A s args post Qc XC free) (hn : n ≤ n1) (ha : ∀ a, a < n ∨ 1000000 ≤ a → ad1 a = ad a) : am_End D cA ad1 n1 A s args post Qc XC free :=
  ⟨⟨h.1.1, h.1.2.on ha⟩, fun v n' kd' I' J' P' ad' H' locs' h1 h2 h3 h4 h5 h6 => h.2.1 v n' kd' I' J' P' ad' H' locs' h1 h2 h3 h4 (Nat.le_trans hn h5) (fun a q => (h6 a (q.imp (fun z => Nat.lt_of_lt_of_le z hn) id)).trans (ha a q)),
   fun E n' kd' I' J' P' ad' H' locs' h1 h2 h3 h5 h6 => h.2.2 E n' kd' I' J' P' ad' H' locs' h1 h2 h3 (Nat.le_trans hn h5) (fun a q => (h6 a (q.imp (fun z => Nat.lt_of_lt_of_le z hn) id)).trans (ha a q))⟩
def RuZ (Z : am_Z) (own : String) (cc : ByteArray) (nL : Nat) (ret : Option FieldType) (nm : String) (d : Nat) (post : am_Post) (kc ks pc : Nat) (ls : List (Option Value)) (st : List Value) (n : Nat) (kd : mK) (I : mI) (J : mJ) (P : mP) : Prop :=
  ∀ (p : Program) (l : Launch) (e : Env) (R : Room) (s : State) (m : MethodId) (args : Array Value) (below : List Frame) (meth : Method) (c : Code) (MC MS : Nat) (A : Nat → Prop) (D : va_G) (cA : Nat → ClassId) (ad : Nat → Nat) (Qc : Array Value → State → Outcome → State → Prop) (XC : String → State → State → Prop) (free : Addr → Prop) (H : Heap) (locs : List Loc) (cells slots : Nat) (lsC : Array Slot),
    am_Cx Z own cc nL ret nm d MC MS A D cA p l R s m args meth c → am_R D cA ad n kd I J P A s.heap H locs → am_WF n kd P → (∀ v, some v ∈ ls → am_ok n v) → (∀ v ∈ st, am_ok n v) → am_L ad lsC nL ls → cells + kc ≤ MC → slots + ks ≤ MS → am_End D cA ad n A s args post Qc XC free →
    W p l e R s m args below meth c H locs cells slots (vx_MQ below Qc XC args s MC MS free) (F0 m pc lsC (st.map (am_v ad)))
abbrev Ru (own : String) (cc : ByteArray) (nL : Nat) (ret : Option FieldType) (nm : String) (d : Nat) (post : am_Post) (kc ks pc : Nat) (ls : List (Option Value)) (st : List Value) (n : Nat) (kd : mK) (I : mI) (J : mJ) (P : mP) : Prop := RuZ kT own cc nL ret nm d post kc ks pc ls st n kd I J P
def am_c2 (a : Option Value) : Option Value := match a with
  | some (.long _) => none
  | some (.double _) => none
  | x => x
/-- a store of one slot, of two slots -/
def am_st1 : List (Option Value) → Nat → Value → List (Option Value)
  | [], _, _ => []
  | _ :: t, 0, v => some v :: t
  | a :: t, 1, v => am_c2 a :: am_st1 t 0 v
  | a :: t, k + 2, v => a :: am_st1 t (k + 1) v
def am_st2 : List (Option Value) → Nat → Value → List (Option Value)
  | [], _, _ => []
  | [_], 0, _ => [none]
  | _ :: _ :: t, 0, v => some v :: none :: t
  | a :: t, 1, v => am_c2 a :: am_st2 t 0 v
  | a :: t, k + 2, v => a :: am_st2 t (k + 1) v
theorem am_c2_get {a : Option Value} {w : Value} (h : am_c2 a = some w) : a = some w ∧ ¬ w.category = 2 := by
  cases a with
  | none => cases h
  | some x => cases x <;> first | (cases h; exact ⟨rfl, by simp [Value.category]⟩) | cases h
theorem am_st1_get : ∀ (ls : List (Option Value)) (i : Nat) (v : Value) (j : Nat) (w : Value), (am_st1 ls i v)[j]? = some (some w) → (j = i ∧ w = v) ∨ (j ≠ i ∧ ls[j]? = some (some w) ∧ ¬ (j + 1 = i ∧ w.category = 2))
  | [], _, _, j, w, h => by simp [am_st1] at h
  | a :: t, 0, v, j, w, h => by
    cases j with
    | zero => simp [am_st1] at h; exact Or.inl ⟨rfl, h.symm⟩
    | succ j => simp [am_st1] at h; exact Or.inr ⟨by omega, by simpa using h, by omega⟩
  | a :: t, 1, v, j, w, h => by
    cases j with
    | zero =>
      simp only [am_st1, List.getElem?_cons_zero, Option.some.injEq] at h
      obtain ⟨h1, h2⟩ := am_c2_get h
      exact Or.inr ⟨by omega, by simp [h1], fun q => h2 q.2⟩
    | succ j =>
      simp only [am_st1, List.getElem?_cons_succ] at h
      rcases am_st1_get t 0 v j w h with ⟨h1, h2⟩ | ⟨h1, h2, h3⟩
      · exact Or.inl ⟨by omega, h2⟩
      · exact Or.inr ⟨by omega, by simpa using h2, by omega⟩
  | a :: t, k + 2, v, j, w, h => by
    cases j with
    | zero =>
      simp only [am_st1, List.getElem?_cons_zero, Option.some.injEq] at h
      exact Or.inr ⟨by omega, by simp [h], by omega⟩
    | succ j =>
      simp only [am_st1, List.getElem?_cons_succ] at h
      rcases am_st1_get t (k + 1) v j w h with ⟨h1, h2⟩ | ⟨h1, h2, h3⟩
      · exact Or.inl ⟨by omega, h2⟩
      · exact Or.inr ⟨by omega, by simpa using h2, fun q => h3 ⟨by omega, q.2⟩⟩
theorem am_st2_get : ∀ (ls : List (Option Value)) (i : Nat) (v : Value) (j : Nat) (w : Value), (am_st2 ls i v)[j]? = some (some w) → (j = i ∧ w = v) ∨ (j ≠ i ∧ j ≠ i + 1 ∧ ls[j]? = some (some w) ∧ ¬ (j + 1 = i ∧ w.category = 2))
  | [], _, _, j, w, h => by simp [am_st2] at h
  | [a], 0, v, j, w, h => by
    cases j with
    | zero => simp [am_st2] at h
    | succ j => simp [am_st2] at h
  | a :: b :: t, 0, v, j, w, h => by
    match j, h with
    | 0, h => simp [am_st2] at h; exact Or.inl ⟨rfl, h.symm⟩
    | 1, h => simp [am_st2] at h
    | j + 2, h => simp [am_st2] at h; exact Or.inr ⟨by omega, by omega, by simpa using h, by omega⟩
  | a :: t, 1, v, j, w, h => by
    cases j with
    | zero =>
      simp only [am_st2, List.getElem?_cons_zero, Option.some.injEq] at h
      obtain ⟨h1, h2⟩ := am_c2_get h
      exact Or.inr ⟨by omega, by omega, by simp [h1], fun q => h2 q.2⟩
    | succ j =>
      simp only [am_st2, List.getElem?_cons_succ] at h
      rcases am_st2_get t 0 v j w h with ⟨h1, h2⟩ | ⟨h1, h2, h3, h4⟩
      · exact Or.inl ⟨by omega, h2⟩
      · exact Or.inr ⟨by omega, by omega, by simpa using h3, by omega⟩
  | a :: t, k + 2, v, j, w, h => by
    cases j with
    | zero =>
      simp only [am_st2, List.getElem?_cons_zero, Option.some.injEq] at h
      exact Or.inr ⟨by omega, by omega, by simp [h], by omega⟩
    | succ j =>
      simp only [am_st2, List.getElem?_cons_succ] at h
      rcases am_st2_get t (k + 1) v j w h with ⟨h1, h2⟩ | ⟨h1, h2, h3, h4⟩
      · exact Or.inl ⟨by omega, h2⟩
      · exact Or.inr ⟨by omega, by omega, by simpa using h3, fun q => h4 ⟨by omega, q.2⟩⟩
def am_l (ad : Nat → Nat) (ls : List (Option Value)) (nL : Nat) : List (Nat × Value) := (List.range nL).filterMap (fun i => match ls[i]? with
  | some (some v) => some (i, am_v ad v)
  | _ => none)
theorem am_l_mem {ad : Nat → Nat} {ls : List (Option Value)} {nL : Nat} {q : Nat × Value} (h : q ∈ am_l ad ls nL) : ∃ v, ls[q.1]? = some (some v) ∧ q.2 = am_v ad v := by
  obtain ⟨i, -, hi⟩ := List.mem_filterMap.mp h
  match h0 : ls[i]?, hi with
  | some (some v), hi => cases hi; exact ⟨v, h0, rfl⟩
theorem am_l_in {ad : Nat → Nat} {ls : List (Option Value)} {nL i : Nat} {v : Value} (hi : i < nL) (h : ls[i]? = some (some v)) : (i, am_v ad v) ∈ am_l ad ls nL := List.mem_filterMap.mpr ⟨i, List.mem_range.mpr hi, by rw [h]⟩
theorem am_L.has {ad : Nat → Nat} {lsC : Array Slot} {nL : Nat} {ls : List (Option Value)} (h : am_L ad lsC nL ls) : lv_has lsC nL (am_l ad ls nL) := ⟨h.1, h.2.1, fun q hq => by obtain ⟨v, h1, h2⟩ := am_l_mem hq; rw [h2]; exact h.2.2 q.1 v h1⟩
theorem am_L.lt {ad : Nat → Nat} {lsC : Array Slot} {nL : Nat} {ls : List (Option Value)} (h : am_L ad lsC nL ls) {i : Nat} {v : Value} (hi : ls[i]? = some (some v)) : i < nL := by
  rw [← h.1]
  exact lv_lt (h.2.2 i v hi)
theorem am_L.st1 {ad : Nat → Nat} {lsC ls' : Array Slot} {nL : Nat} {ls : List (Option Value)} {i : Nat} {v : Value} (h0 : am_L ad lsC nL ls) (h : lv_has ls' nL ((i, am_v ad v) :: (am_l ad ls nL).filter (fun q => !(q.1 == i) && !(q.1 + 1 == i && q.2.category == 2)))) : am_L ad ls' nL (am_st1 ls i v) := by
  refine ⟨h.1, h.2.1, fun j w hj => ?_⟩
  rcases am_st1_get ls i v j w hj with ⟨rfl, rfl⟩ | ⟨h1, h2, h3⟩
  · exact h.2.2 (j, am_v ad w) List.mem_cons_self
  · refine h.2.2 (j, am_v ad w) (List.mem_cons_of_mem _ (List.mem_filter.mpr ⟨am_l_in (h0.lt h2) h2, ?_⟩))
    simp only [am_cat, Bool.and_eq_true, Bool.not_eq_true', beq_eq_false_iff_ne, ne_eq, Bool.and_eq_false_iff]
    exact ⟨h1, by by_cases z : j + 1 = i; exact Or.inr (fun q => h3 ⟨z, q⟩); exact Or.inl z⟩
theorem am_L.st2 {ad : Nat → Nat} {lsC ls' : Array Slot} {nL : Nat} {ls : List (Option Value)} {i : Nat} {v : Value} (h0 : am_L ad lsC nL ls) (h : lv_has ls' nL ((i, am_v ad v) :: (am_l ad ls nL).filter (fun q => !(q.1 == i) && (!(q.1 == i + 1) && !(q.1 + 1 == i && q.2.category == 2))))) : am_L ad ls' nL (am_st2 ls i v) := by
  refine ⟨h.1, h.2.1, fun j w hj => ?_⟩
  rcases am_st2_get ls i v j w hj with ⟨rfl, rfl⟩ | ⟨h1, h1', h2, h3⟩
  · exact h.2.2 (j, am_v ad w) List.mem_cons_self
  · refine h.2.2 (j, am_v ad w) (List.mem_cons_of_mem _ (List.mem_filter.mpr ⟨am_l_in (h0.lt h2) h2, ?_⟩))
    simp only [am_cat, Bool.and_eq_true, Bool.not_eq_true', beq_eq_false_iff_ne, ne_eq, Bool.and_eq_false_iff]
    exact ⟨h1, h1', by by_cases z : j + 1 = i; exact Or.inr (fun q => h3 ⟨z, q⟩); exact Or.inl z⟩
theorem am_ok_st1 {n : Nat} : ∀ (ls : List (Option Value)) (i : Nat) (v : Value), (∀ w, some w ∈ ls → am_ok n w) → am_ok n v → ∀ w, some w ∈ am_st1 ls i v → am_ok n w := by
  intro ls i v h hv w hw
  obtain ⟨j, hj⟩ := List.getElem?_of_mem hw
  rcases am_st1_get ls i v j w hj with ⟨-, rfl⟩ | ⟨-, h2, -⟩
  · exact hv
  · exact h w (List.mem_of_getElem? h2)
theorem am_ok_st2 {n : Nat} : ∀ (ls : List (Option Value)) (i : Nat) (v : Value), (∀ w, some w ∈ ls → am_ok n w) → am_ok n v → ∀ w, some w ∈ am_st2 ls i v → am_ok n w := by
  intro ls i v h hv w hw
  obtain ⟨j, hj⟩ := List.getElem?_of_mem hw
  rcases am_st2_get ls i v j w hj with ⟨-, rfl⟩ | ⟨-, -, h2, -⟩
  · exact hv
  · exact h w (List.mem_of_getElem? h2)
theorem ok_t {n : Nat} {a : Value} {st : List Value} (h : ∀ v ∈ a :: st, am_ok n v) : ∀ v ∈ st, am_ok n v := fun v q => h v (List.mem_cons_of_mem _ q)
theorem ok_h {n : Nat} {a : Value} {st : List Value} (h : ∀ v ∈ a :: st, am_ok n v) : am_ok n a := h a List.mem_cons_self
theorem ok_c {n : Nat} {a : Value} {st : List Value} (ha : am_ok n a) (h : ∀ v ∈ st, am_ok n v) : ∀ v ∈ a :: st, am_ok n v := fun v q => (List.mem_cons.mp q).elim (fun e => e ▸ ha) (h v)
