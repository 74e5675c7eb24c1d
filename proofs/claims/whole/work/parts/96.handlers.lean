/-! METHODS WITH A TABLE OF HANDLERS: contracts -/
def CtW (hh : List (Nat × Nat × Nat × Nat)) (y : MethodName) (cc : ByteArray) (nL : Nat) (ret : Option FieldType) (d kc ks : Nat) (as : List Value) (n : Nat) (kd : mK) (I : mI) (J : mJ) (P : mP) (post : am_Post) : Prop :=
  ∀ (l : Launch) (D : va_G) (cA : Nat → ClassId) (ad : Nat → Nat) (sz : Nat), l.stackTraces = false → am_WF n kd P → (∀ v ∈ as, am_ok n v) →
    vx_Met l y (Cond.codeWith y cc nL ret hh :: gw) ({ frames := d, cells := kc, slots := ks, locals := 60 * d } : Room) (am_Pc D cA ad as n kd I J P sz) (am_Qc post D cA ad n (va_A (am_w cA ad n kd I J P) sz)) (am_Xc post D cA ad n (va_A (am_w cA ad n kd I J P) sz)) kc ks (va_A (am_w cA ad n kd I J P) sz)
set_option maxHeartbeats 4000000 in
theorem ctw_of {hh : List (Nat × Nat × Nat × Nat)} {y : MethodName} {cc : ByteArray} {nL : Nat} {ret : Option FieldType} {d kc ks : Nat} {as : List Value} {n : Nat} {kd : mK} {I : mI} {J : mJ} {P : mP} {post : am_Post} {ls : List (Option Value)} (r : Nat) (hy : plainName y.cls = true) (hlen : (as.map fun v => v.category).sum ≤ nL) (hls : am_en as ++ List.replicate r none = ls)
    (k : RuZ (fun _ => True, hh) y.cls cc nL ret y.name d post kc ks 0 ls [] n kd I J P) : CtW hh y cc nL ret d kc ks as n kd I J P post := by
  intro l D cA ad sz hl wf wa
  refine vx_ofWH (cc := cc) (maxL := nL) (ret := ret) (hh := hh) hy rfl ?_
  intro p e s m args below meth c s₁ B hml hv
  obtain ⟨rfl, hsz, hP, hK, hD0, hS9, hN9, hT9⟩ := hv
  subst hsz
  have hD := hD0.self (sz := s.heap.size)
  have hts := atoms_spec (ws := Cond.codeWith y cc nL ret hh :: gw) B.pre
  have hex := vx_table (x := y) B (hts _ List.mem_cons_self)
  have hen := lv_entry (as.map (am_v ad)) (n := nL) (by rw [am_sl_len]; exact hlen)
  rw [lg_entry_eq]
  generalize (lg_sl (as.map (am_v ad)) ++ List.replicate (nL - (lg_sl (as.map (am_v ad))).length) Slot.unset).toArray = lsC at hen ⊢
  have hL : am_L ad lsC nL ls := ⟨hen.1, hen.2.1, fun i v hv => by
    rw [← hls] at hv
    have := am_en_get ad r as 0 i v hv
    rw [Nat.zero_add] at this
    exact hen.2.2 _ this⟩
  have hfree : ∀ q, va_A (am_w cA ad n kd I J P) s.heap.size q → va_A (am_w cA ad n kd I J P) s.heap.size q := fun _ h => h
  refine k p l e _ s m _ below meth c kc ks (va_A (am_w cA ad n kd I J P) s.heap.size) D cA ad _ _ _ s.heap [] 0 0 lsC ⟨B.exec, B.bytes, hml, B.returns, fun w hw => hts w (List.mem_cons_of_mem _ hw), findClass_of_methodNamed B.named, B.notSynchronized, (name_of_methodNamed B.named B.method).1, hex, hl, ⟨Nat.le_refl d, Nat.le_refl (60 * d), Nat.le_refl kc, Nat.le_refl ks⟩, hK, fun q h => Or.inr h, hS9, hN9, trivial⟩ ⟨hP, hD, va_S.rf⟩ wf (by rw [← hls]; exact am_en_ok wa) (fun v h => nomatch h) hL (Nat.le_of_eq (Nat.zero_add kc)) (Nat.le_of_eq (Nat.zero_add ks)) ⟨⟨hfree, hT9⟩, ?_, ?_⟩
  · intro v n' kd' I' J' P' ad' H' locs' h1 h2 h3 h4 h5 h6 t ht hW
    exact ⟨v, n', kd', I', J', P', ad', rfl, h1, h4, h3, h5, h6, by rw [ht]; exact h2.1, h2.2.1, h2.2.2.F ht⟩
  · intro E n' kd' I' J' P' ad' H' locs' h1 h2 h3 h5 h6 t ht hW
    exact ⟨n', kd', I', J', P', ad', h1, h3, h5, h6, by rw [ht]; exact h2.1, h2.2.1, h2.2.2.F ht⟩
