/-! CONTRACTS OVER THE MEMORY BY IDS, AND CALLS BY THEM -/
def am_Aft (D : va_G) (cA : Nat → ClassId) (ad : Nat → Nat) (n : Nat) (A : Nat → Prop) (st t : State) (n' : Nat) (kd' : mK) (I' : mI) (J' : mJ) (P' : mP) (ad' : Nat → Nat) : Prop :=
  am_WF n' kd' P' ∧ n ≤ n' ∧ (∀ a, a < n ∨ 1000000 ≤ a → ad' a = ad a) ∧ va_P D vwCl (am_w cA ad' n' kd' I' J' P') t.heap ∧ va_D A (am_w cA ad' n' kd' I' J' P') ∧ va_F A st t
def am_Qc (post : am_Post) (D : va_G) (cA : Nat → ClassId) (ad : Nat → Nat) (n : Nat) (A : Nat → Prop) : Array Value → State → Outcome → State → Prop := fun _ st oc t =>
  ∃ (v : Option Value) (n' : Nat) (kd' : mK) (I' : mI) (J' : mJ) (P' : mP) (ad' : Nat → Nat), oc = .returned (v.map (am_v ad')) ∧ post (.inl v) n' kd' I' J' P' ∧ (∀ w, v = some w → am_ok n' w) ∧ am_Aft D cA ad n A st t n' kd' I' J' P' ad'
def am_Xc (post : am_Post) (D : va_G) (cA : Nat → ClassId) (ad : Nat → Nat) (n : Nat) (A : Nat → Prop) : String → State → State → Prop := fun E st t =>
  ∃ (n' : Nat) (kd' : mK) (I' : mI) (J' : mJ) (P' : mP) (ad' : Nat → Nat), post (.inr E) n' kd' I' J' P' ∧ am_Aft D cA ad n A st t n' kd' I' J' P' ad'
def am_Pc (D : va_G) (cA : Nat → ClassId) (ad : Nat → Nat) (as : List Value) (n : Nat) (kd : mK) (I : mI) (J : mJ) (P : mP) (sz : Nat) : Array Value → State → Prop :=
  va_Pc (as.map (am_v ad)) (fun U => U.heap.size = sz ∧ va_P D vwCl (am_w cA ad n kd I J P) U.heap ∧ va_K D vwCl (am_ty cA) U ∧ va_D (fun _ => True) (am_w cA ad n kd I J P) ∧ am_S (va_A (am_w cA ad n kd I J P) sz) cA U U.heap ∧ am_N U ∧ am_St cA ad)
/-- method y, called with 'as' on this memory, ends with post: d frames, kc new cells, ks new slots are enough -/
def Ct (y : MethodName) (cc : ByteArray) (nL : Nat) (ret : Option FieldType) (d kc ks : Nat) (as : List Value) (n : Nat) (kd : mK) (I : mI) (J : mJ) (P : mP) (post : am_Post) : Prop :=
  ∀ (l : Launch) (D : va_G) (cA : Nat → ClassId) (ad : Nat → Nat) (sz : Nat), l.stackTraces = false → am_WF n kd P → (∀ v ∈ as, am_ok n v) →
    vx_Met l y (Cond.code y cc nL ret :: gw) ({ frames := d, cells := kc, slots := ks, locals := 60 * d } : Room) (am_Pc D cA ad as n kd I J P sz) (am_Qc post D cA ad n (va_A (am_w cA ad n kd I J P) sz)) (am_Xc post D cA ad n (va_A (am_w cA ad n kd I J P) sz)) kc ks (va_A (am_w cA ad n kd I J P) sz)
theorem am_blind {D : va_G} {cA : Nat → ClassId} {ad : Nat → Nat} {as : List Value} {n : Nat} {kd : mK} {I : mI} {J : mJ} {P : mP} {sz : Nat} : FrameBlind (am_Pc D cA ad as n kd I J P sz) := fun a U g mk q => by
  obtain ⟨q0, q1, qP, qK, qD, qS, qN, qT⟩ := q
  exact ⟨q0, q1, qP, va_K.moved (u := U) (U := U.calling g mk a) (Vm.Alike.refl U.vm) qK, qD, am_S.same (u := U) (U := U.calling g mk a) rfl qS, am_N.same (u := U) (U := U.calling g mk a) rfl qN, qT⟩
def am_en : List Value → List (Option Value)
  | [] => []
  | .long x :: t => some (.long x) :: none :: am_en t
  | .double x :: t => some (.double x) :: none :: am_en t
  | v :: t => some v :: am_en t
theorem am_en_get (ad : Nat → Nat) (r : Nat) : ∀ (as : List Value) (i j : Nat) (w : Value), (am_en as ++ List.replicate r none)[j]? = some (some w) → (i + j, am_v ad w) ∈ lv_args i (as.map (am_v ad))
  | [], i, j, w, h => by
    simp only [am_en, List.nil_append] at h
    have := List.mem_of_getElem? h
    simp at this
  | v :: t, i, j, w, h => by
    have one : ∀ (v : Value), v.category = 1 → (some v :: am_en t ++ List.replicate r none)[j]? = some (some w) → (i + j, am_v ad w) ∈ lv_args i ((v :: t).map (am_v ad)) := by
      intro v hv h
      simp only [List.map_cons, lv_args, am_cat, hv]
      cases j with
      | zero =>
        simp at h
        subst h
        exact List.mem_cons_self
      | succ j =>
        have h' : (am_en t ++ List.replicate r none)[j]? = some (some w) := by simpa using h
        have := am_en_get ad r t (i + 1) j w h'
        rw [show i + (j + 1) = i + 1 + j by omega]
        exact List.mem_cons_of_mem _ this
    have two : ∀ (v : Value), v.category = 2 → (some v :: none :: am_en t ++ List.replicate r none)[j]? = some (some w) → (i + j, am_v ad w) ∈ lv_args i ((v :: t).map (am_v ad)) := by
      intro v hv h
      simp only [List.map_cons, lv_args, am_cat, hv]
      match j, h with
      | 0, h =>
        simp at h
        subst h
        exact List.mem_cons_self
      | 1, h => simp at h
      | j + 2, h =>
        have h' : (am_en t ++ List.replicate r none)[j]? = some (some w) := by simpa using h
        have := am_en_get ad r t (i + 2) j w h'
        rw [show i + (j + 2) = i + 2 + j by omega]
        exact List.mem_cons_of_mem _ this
    cases v with
    | long x => exact two _ rfl h
    | double x => exact two _ rfl h
    | _ => exact one _ rfl h
theorem am_sl_len (ad : Nat → Nat) (as : List Value) : (lg_sl (as.map (am_v ad))).length = (as.map fun v => v.category).sum := by
  induction as with
  | nil => rfl
  | cons v t ih =>
    have : (lg_sl ((v :: t).map (am_v ad))).length = (if (am_v ad v).category = 2 then 2 else 1) + (lg_sl (t.map (am_v ad))).length := by
      simp only [lg_sl, List.map_cons, List.flatMap_cons, List.length_append]
      split <;> rfl
    rw [this, ih, am_cat, List.map_cons, List.sum_cons]
    rcases lv_cat v with h | h <;> rw [h] <;> rfl
theorem am_en_ok {n : Nat} {r : Nat} : ∀ {as : List Value}, (∀ v ∈ as, am_ok n v) → ∀ w, some w ∈ (am_en as ++ List.replicate r none) → am_ok n w := by
  intro as h w hw
  rcases List.mem_append.mp hw with hw | hw
  · have key : ∀ (as : List Value), some w ∈ am_en as → w ∈ as := by
      intro as
      induction as with
      | nil => intro h; simp [am_en] at h
      | cons v t ih =>
        intro h
        cases v with
        | long x => simp [am_en] at h; rcases h with h | h; exact h ▸ List.mem_cons_self; exact List.mem_cons_of_mem _ (ih h)
        | double x => simp [am_en] at h; rcases h with h | h; exact h ▸ List.mem_cons_self; exact List.mem_cons_of_mem _ (ih h)
        | _ => simp [am_en] at h; rcases h with h | h; exact h ▸ List.mem_cons_self; exact List.mem_cons_of_mem _ (ih h)
    exact h w (key as hw)
  · simp at hw
theorem am_noX {c : Code} (h : ∀ x ∈ c.exceptionTable.toList, False) : c.exceptionTable.toList = tableOf [] := by
  cases e : c.exceptionTable.toList with
  | nil => rfl
  | cons x t => exact (h x (by rw [e]; exact List.mem_cons_self)).elim
set_option maxHeartbeats 4000000 in
theorem ct_of {y : MethodName} {cc : ByteArray} {nL : Nat} {ret : Option FieldType} {d kc ks : Nat} {as : List Value} {n : Nat} {kd : mK} {I : mI} {J : mJ} {P : mP} {post : am_Post} {ls : List (Option Value)} (r : Nat) (hy : plainName y.cls = true) (hlen : (as.map fun v => v.category).sum ≤ nL) (hls : am_en as ++ List.replicate r none = ls)
    (k : Ru y.cls cc nL ret y.name d post kc ks 0 ls [] n kd I J P) : Ct y cc nL ret d kc ks as n kd I J P post := by
  intro l D cA ad sz hl wf wa
  refine vx_ofW (cc := cc) (maxL := nL) (ret := ret) hy rfl ?_
  intro p e s m args below meth c s₁ B hml hex hv
  obtain ⟨rfl, hsz, hP, hK, hD0, hS9, hN9, hT9⟩ := hv
  subst hsz
  have hD := hD0.self (sz := s.heap.size)
  have hts := atoms_spec (ws := Cond.code y cc nL ret :: gw) B.pre
  have hen := lv_entry (as.map (am_v ad)) (n := nL) (by rw [am_sl_len]; exact hlen)
  rw [lg_entry_eq]
  generalize (lg_sl (as.map (am_v ad)) ++ List.replicate (nL - (lg_sl (as.map (am_v ad))).length) Slot.unset).toArray = lsC at hen ⊢
  have hL : am_L ad lsC nL ls := ⟨hen.1, hen.2.1, fun i v hv => by
    rw [← hls] at hv
    have := am_en_get ad r as 0 i v hv
    rw [Nat.zero_add] at this
    exact hen.2.2 _ this⟩
  have hfree : ∀ q, va_A (am_w cA ad n kd I J P) s.heap.size q → va_A (am_w cA ad n kd I J P) s.heap.size q := fun _ h => h
  refine k p l e _ s m _ below meth c kc ks (va_A (am_w cA ad n kd I J P) s.heap.size) D cA ad _ _ _ s.heap [] 0 0 lsC ⟨B.exec, B.bytes, hml, B.returns, fun w hw => hts w (List.mem_cons_of_mem _ hw), findClass_of_methodNamed B.named, B.notSynchronized, (name_of_methodNamed B.named B.method).1, (am_noX hex), hl, ⟨Nat.le_refl d, Nat.le_refl (60 * d), Nat.le_refl kc, Nat.le_refl ks⟩, hK, fun q h => Or.inr h, hS9, hN9, trivial⟩ ⟨hP, hD, va_S.rf⟩ wf (by rw [← hls]; exact am_en_ok wa) (fun v h => nomatch h) hL (Nat.le_of_eq (Nat.zero_add kc)) (Nat.le_of_eq (Nat.zero_add ks)) ⟨⟨hfree, hT9⟩, ?_, ?_⟩
  · intro v n' kd' I' J' P' ad' H' locs' h1 h2 h3 h4 h5 h6 t ht hW
    exact ⟨v, n', kd', I', J', P', ad', rfl, h1, h4, h3, h5, h6, by rw [ht]; exact h2.1, h2.2.1, h2.2.2.F ht⟩
  · intro E n' kd' I' J' P' ad' H' locs' h1 h2 h3 h5 h6 t ht hW
    exact ⟨n', kd', I', J', P', ad', h1, h3, h5, h6, by rw [ht]; exact h2.1, h2.2.1, h2.2.2.F ht⟩
theorem Ct.mono {y : MethodName} {cc : ByteArray} {nL : Nat} {ret : Option FieldType} {d kc ks : Nat} {as : List Value} {n : Nat} {kd : mK} {I : mI} {J : mJ} {P : mP} {post post2 : am_Post} (h : Ct y cc nL ret d kc ks as n kd I J P post) (hp : ∀ o n' kd' I' J' P', post o n' kd' I' J' P' → post2 o n' kd' I' J' P') : Ct y cc nL ret d kc ks as n kd I J P post2 := by
  intro l D cA ad sz hl wf wa
  refine MetFree.mono (h l D cA ad sz hl wf wa) (fun _ _ h => h) (fun _ _ _ _ _ h => h) ?_
  intro a s o t _ hq
  rcases hq with ⟨⟨v, n', kd', I', J', P', ad', h1, h2, h3⟩, hL⟩ | ⟨q, h1, E, ce, L, ⟨n', kd', I', J', P', ad', h2, h3⟩, hr⟩
  · exact Or.inl ⟨⟨v, n', kd', I', J', P', ad', h1, hp _ _ _ _ _ _ h2, h3⟩, hL⟩
  · exact Or.inr ⟨q, h1, E, ce, L, ⟨n', kd', I', J', P', ad', hp _ _ _ _ _ _ h2, h3⟩, hr⟩
/-- no throw: a plain contract of the kit -/
theorem Ct.met {y : MethodName} {cc : ByteArray} {nL : Nat} {ret : Option FieldType} {d kc ks : Nat} {as : List Value} {n : Nat} {kd : mK} {I : mI} {J : mJ} {P : mP} {post : am_Post} (h : Ct y cc nL ret d kc ks as n kd I J P post) (hx : ∀ E n' kd' I' J' P', ¬ post (.inr E) n' kd' I' J' P') {l : Launch} {D : va_G} {cA : Nat → ClassId} {ad : Nat → Nat} {sz : Nat} (hl : l.stackTraces = false) (wf : am_WF n kd P) (wa : ∀ v ∈ as, am_ok n v) :
    Met l y (Cond.code y cc nL ret :: gw) ({ frames := d, cells := kc, slots := ks, locals := 60 * d } : Room) (am_Pc D cA ad as n kd I J P sz) (am_Qc post D cA ad n (va_A (am_w cA ad n kd I J P) sz)) kc ks (va_A (am_w cA ad n kd I J P) sz) := by
  refine MetFree.mono (h l D cA ad sz hl wf wa) (fun _ _ h => h) (fun _ _ _ _ _ h => h) ?_
  intro a s o t _ hq
  rcases hq with h1 | ⟨q, h1, E, ce, L, ⟨n', kd', I', J', P', ad', h2, h3⟩, hr⟩
  · exact h1
  · exact absurd h2 (hx E n' kd' I' J' P')
