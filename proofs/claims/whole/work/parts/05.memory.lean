/-! THE MEMORY BY IDS: ids are small numbers, 'ad' says at which address an id's cell lies; kd: 0 and the class's number, or the kind of array (1 int, 2 byte, 3 boolean, 4 long) and its length; I, J, P: what fields and elements hold (ints, longs, references). Ids from 1000000 on are constants' outside the world. -/
abbrev mK : Type := Nat → Option (Nat × Nat)
abbrev mI : Type := Nat → Nat → Int32
abbrev mJ : Type := Nat → Nat → Int64
abbrev mP : Type := Nat → Nat → Option Nat
def am_v (ad : Nat → Nat) (v : Value) : Value := match v with
  | .ref a => .ref (ad a)
  | w => w
def am_f (ad : Nat → Nat) (I : mI) (J : mJ) (P : mP) (ci a k : Nat) : Value := match aY ci k with
  | .long => .long (J a k)
  | .object _ => va_rf ((P a k).map ad)
  | .array _ => va_rf ((P a k).map ad)
  | _ => .int (I a k)
def am_fs (ad : Nat → Nat) (I : mI) (J : mJ) (P : mP) (ci a : Nat) : List Value := (List.range (aN ci)).map (am_f ad I J P ci a)
def am_e (cA : Nat → ClassId) (ad : Nat → Nat) (kd : mK) (I : mI) (J : mJ) (P : mP) (a : Nat) : va_E := match kd a with
  | some (0, ci) => .inr (ci, am_fs ad I J P ci a)
  | some (4, n) => .inl (cA 4, n, .inr (.inl (J a)))
  | some (t, n) => .inl (cA t, n, .inl (I a))
  | none => .inr (0, [])
def am_w (cA : Nat → ClassId) (ad : Nat → Nat) (n : Nat) (kd : mK) (I : mI) (J : mJ) (P : mP) : va_W := (List.range n).map (fun a => (ad a, am_e cA ad kd I J P a))
def am_ty (cA : Nat → ClassId) : List (ClassId × FieldType) := [(cA 1, .int), (cA 2, .byte), (cA 3, .boolean), (cA 4, .long)]
def am_R (D : va_G) (cA : Nat → ClassId) (ad : Nat → Nat) (n : Nat) (kd : mK) (I : mI) (J : mJ) (P : mP) (A : Nat → Prop) (H0 H : Heap) (locs : List Loc) : Prop := va_P D vwCl (am_w cA ad n kd I J P) H ∧ va_D A (am_w cA ad n kd I J P) ∧ va_S A H0 H locs
def am_ok (n : Nat) (v : Value) : Prop := ∀ a, v = .ref a → a < n ∨ 1000000 ≤ a
def am_WF (n : Nat) (kd : mK) (P : mP) : Prop := (∀ a x, kd a = some x → a < n) ∧ (∀ a k b, P a k = some b → b < n) ∧ n ≤ 1000000
def am_L (ad : Nat → Nat) (lsC : Array Slot) (nL : Nat) (ls : List (Option Value)) : Prop := lsC.size = nL ∧ lv_wf lsC ∧ ∀ (i : Nat) (v : Value), ls[i]? = some (some v) → lsC[i]? = some (.val (am_v ad v))
/-- texts: the constants' objects, by their places; sR: which entry of which class names which -/
def sL : List Nat := [4, 6, 5, 4, 2, 3, 3, 4, 6, 5, 4, 5, 2, 5, 8, 1, 6, 6, 11, 14, 18]
def sB : List (List Int32) := [[109, 111, 115, 116], [117, 110, 108, 105, 107, 101], [104, 111, 117, 115, 101], [115, 97, 121, 115], [111, 114], [97, 110, 100], [110, 111, 116], [104, 101, 114, 101], [98, 101, 102, 111, 114, 101], [97, 102, 116, 101, 114], [115, 111, 110, 115], [100, 101, 98, 116, 115], [111, 102], [109, 111, 115, 116, 32], [59, 117, 110, 108, 105, 107, 101, 59], [59], [104, 111, 117, 115, 101, 32], [32, 115, 97, 121, 115, 32], [32, 115, 97, 121, 115, 32, 104, 101, 114, 101, 61], [32, 115, 97, 121, 115, 32, 104, 101, 114, 101, 61, 111, 102, 32], [32, 115, 97, 121, 115, 32, 110, 111, 116, 32, 104, 101, 114, 101, 61, 111, 102, 32]]
def sR : List (String × Nat × String × Nat) := [("RiddleDoors$Reader", 113, "most", 0), ("RiddleDoors$Reader", 119, "unlike", 1), ("RiddleDoors$Reader", 121, "house", 2), ("RiddleDoors$Reader", 123, "says", 3), ("RiddleDoors$Reader", 125, "or", 4), ("RiddleDoors$Reader", 127, "and", 5), ("RiddleDoors$Reader", 129, "not", 6), ("RiddleDoors$Reader", 131, "here", 7), ("RiddleDoors$Reader", 133, "before", 8), ("RiddleDoors$Reader", 135, "after", 9), ("RiddleDoors$Reader", 137, "sons", 10), ("RiddleDoors$Reader", 139, "debts", 11), ("RiddleDoors$Reader", 141, "of", 12), ("RiddleDoors$Page", 30, "most ", 13), ("RiddleDoors$Page", 48, ";unlike;", 14), ("RiddleDoors$Page", 50, ";", 15), ("RiddleDoors$Page", 59, "house ", 16), ("RiddleDoors$Page", 74, " says ", 17), ("RiddleDoors$Page", 93, " says here=", 18), ("RiddleDoors$Page", 95, " says here=of ", 19), ("RiddleDoors$Page", 97, " says not here=of ", 20), ("RiddleDoors$Page", 85, "house", 2)]
/-- what lies outside the world and is never written: two statics that a throw reads, texts, two statics of the JDK's, the script -/
def am_T (A : Nat → Prop) (cA : Nat → ClassId) (U : State) (H : Heap) : Prop := vk_S 21 sL sB (fun i => cA (100 + i)) (fun i => cA (200 + i)) A U H ∧ (∀ q ∈ sR, vk_R q.1 q.2.1 q.2.2.1 (cA (100 + q.2.2.2)) U) ∧ va_Z "java/lang/String" "COMPACT_STRINGS" "Z" (.int 1) A U H ∧ (va_Z "jdk/internal/util/Preconditions" "SIOOBE_FORMATTER" "Ljava/util/function/BiFunction;" .null A U H ∨ va_Z "jdk/internal/util/Preconditions" "SIOOBE_FORMATTER" "Ljava/util/function/BiFunction;" (.ref (cA 302)) A U H) ∧ va_T .int (cA 300) (cA 301) (fun j => .int (nI (cA (310 + j)))) A U H
def am_S (A : Nat → Prop) (cA : Nat → ClassId) (U : State) (H : Heap) : Prop := vx_Zq Bundle.tN "UNASSIGNED_STACK" Bundle.steD A U H ∧ vx_Zq Bundle.tN "SUPPRESSED_SENTINEL" Bundle.listD A U H ∧ am_T A cA U H
theorem am_S.warm {A : Nat → Prop} {cA : Nat → ClassId} {u U : State} {H : Heap} (hW : u.WarmedH U.vm) (h : am_S A cA u H) : am_S A cA U H := ⟨h.1.moved hW.alike, h.2.1.moved hW.alike, h.2.2.1.moved hW.alike, fun q hq => (h.2.2.2.1 q hq).warm hW, h.2.2.2.2.1.moved hW.alike, h.2.2.2.2.2.1.imp (va_Z.moved hW.alike) (va_Z.moved hW.alike), h.2.2.2.2.2.2.moved hW.alike⟩
theorem am_S.same {A : Nat → Prop} {cA : Nat → ClassId} {u U : State} {H : Heap} (hv : U.vm = u.vm) (h : am_S A cA u H) : am_S A cA U H := by
  have hA : u.vm.Alike U.vm := by rw [hv]; exact Vm.Alike.refl u.vm
  exact ⟨h.1.moved hA, h.2.1.moved hA, h.2.2.1.moved hA, fun q hq => (h.2.2.2.1 q hq).same hv, h.2.2.2.2.1.moved hA, h.2.2.2.2.2.1.imp (va_Z.moved hA) (va_Z.moved hA), h.2.2.2.2.2.2.moved hA⟩
theorem am_S.kept {A : Nat → Prop} {cA : Nat → ClassId} {U : State} {H H1 : Heap} (h : am_S A cA U H) (hq : ∀ a : Nat, a < H.size → ¬ A a → H1[a]? = H[a]?) : am_S A cA U H1 := ⟨h.1.kept hq, h.2.1.kept hq, h.2.2.1.kept hq, h.2.2.2.1, h.2.2.2.2.1.kept hq, h.2.2.2.2.2.1.imp (fun z => z.kept hq) (fun z => z.kept hq), h.2.2.2.2.2.2.kept hq⟩
theorem am_S.narrow {A B : Nat → Prop} {cA : Nat → ClassId} {U : State} {H : Heap} (h : am_S A cA U H) (hAB : ∀ q, B q → A q) : am_S B cA U H := ⟨h.1.narrow hAB, h.2.1.narrow hAB, h.2.2.1.narrow hAB, h.2.2.2.1, h.2.2.2.2.1.narrow hAB, h.2.2.2.2.2.1.imp (fun z => z.narrow hAB) (fun z => z.narrow hAB), h.2.2.2.2.2.2.narrow hAB⟩
/-- the ids of what lies outside the world -/
def am_St (cA : Nat → ClassId) (ad : Nat → Nat) : Prop := ∀ i, i < 300 → ad (1000000 + i) = cA (100 + i)
theorem am_St.on {cA : Nat → ClassId} {ad ad1 : Nat → Nat} {n : Nat} (h : am_St cA ad) (ha : ∀ a, a < n ∨ 1000000 ≤ a → ad1 a = ad a) : am_St cA ad1 := fun i hi => (ha _ (Or.inr (by omega))).trans (h i hi)
theorem am_ok_i {n : Nat} {x : Int32} : am_ok n (.int x) := fun _ h => nomatch h
theorem am_ok_l {n : Nat} {x : Int64} : am_ok n (.long x) := fun _ h => nomatch h
theorem am_ok_n {n : Nat} : am_ok n .null := fun _ h => nomatch h
theorem am_ok.mono {n n' : Nat} {v : Value} (h : am_ok n v) (hn : n ≤ n') : am_ok n' v := fun a e => (h a e).elim (fun q => Or.inl (Nat.lt_of_lt_of_le q hn)) Or.inr
theorem am_cat (ad : Nat → Nat) (v : Value) : (am_v ad v).category = v.category := by cases v <;> rfl
theorem am_cats (ad : Nat → Nat) (st : List Value) : ((st.map (am_v ad)).map fun v => v.category).sum = (st.map fun v => v.category).sum := by
  induction st with
  | nil => rfl
  | cons v t ih => simp only [List.map_cons, List.sum_cons, am_cat, ih]
theorem am_v_eq {ad ad' : Nat → Nat} {n : Nat} (h : ∀ a, a < n ∨ 1000000 ≤ a → ad' a = ad a) {v : Value} (hv : am_ok n v) : am_v ad' v = am_v ad v := by
  cases v with
  | ref a => show Value.ref (ad' a) = Value.ref (ad a); rw [h a (hv a rfl)]
  | _ => rfl
theorem am_vs_eq {ad ad' : Nat → Nat} {n : Nat} (h : ∀ a, a < n ∨ 1000000 ≤ a → ad' a = ad a) {st : List Value} (hv : ∀ v ∈ st, am_ok n v) : st.map (am_v ad') = st.map (am_v ad) := List.map_congr_left (fun v q => am_v_eq h (hv v q))
theorem am_w_len {cA : Nat → ClassId} {ad : Nat → Nat} {n : Nat} {kd : mK} {I : mI} {J : mJ} {P : mP} : (am_w cA ad n kd I J P).length = n := by simp [am_w]
theorem am_w_at {cA : Nat → ClassId} {ad : Nat → Nat} {n : Nat} {kd : mK} {I : mI} {J : mJ} {P : mP} {a : Nat} (h : a < n) : (am_w cA ad n kd I J P)[a]? = some (ad a, am_e cA ad kd I J P a) := by
  simp [am_w, List.getElem?_map, List.getElem?_range h]
theorem am_w_set {cA : Nat → ClassId} {ad : Nat → Nat} {n : Nat} {kd : mK} {I I' : mI} {J J' : mJ} {P P' : mP} {a : Nat} {E : va_E} (he : am_e cA ad kd I' J' P' a = E) (ho : ∀ b, b ≠ a → am_e cA ad kd I' J' P' b = am_e cA ad kd I J P b) : (am_w cA ad n kd I J P).set a (ad a, E) = am_w cA ad n kd I' J' P' := by
  apply List.ext_getElem?
  intro b
  rw [List.getElem?_set]
  by_cases hb : b < n
  · rw [am_w_at hb, am_w_at hb, am_w_len]
    by_cases hab : a = b
    · subst hab; simp [hb, he]
    · simp [hab, ho b (fun q => hab q.symm)]
  · have h1 : (am_w cA ad n kd I J P)[b]? = none := List.getElem?_eq_none (by rw [am_w_len]; omega)
    have h2 : (am_w cA ad n kd I' J' P')[b]? = none := List.getElem?_eq_none (by rw [am_w_len]; omega)
    rw [h1, h2, am_w_len]
    by_cases hab : a = b
    · subst hab; simp [hb]
    · simp [hab]
theorem am_e_obj {cA : Nat → ClassId} {ad : Nat → Nat} {kd : mK} {I : mI} {J : mJ} {P : mP} {a ci : Nat} (h : kd a = some (0, ci)) : am_e cA ad kd I J P a = .inr (ci, am_fs ad I J P ci a) := by simp [am_e, h]
theorem am_e_arr {cA : Nat → ClassId} {ad : Nat → Nat} {kd : mK} {I : mI} {J : mJ} {P : mP} {a t len : Nat} (h : kd a = some (t, len)) (h0 : t ≠ 0) (h4 : t ≠ 4) : am_e cA ad kd I J P a = .inl (cA t, len, .inl (I a)) := by
  unfold am_e
  rw [h]
  match t, h0, h4 with
  | 1, _, _ => rfl
  | 2, _, _ => rfl
  | 3, _, _ => rfl
  | k + 5, _, _ => rfl
theorem am_e_lng {cA : Nat → ClassId} {ad : Nat → Nat} {kd : mK} {I : mI} {J : mJ} {P : mP} {a len : Nat} (h : kd a = some (4, len)) : am_e cA ad kd I J P a = .inl (cA 4, len, .inr (.inl (J a))) := by simp [am_e, h]
theorem am_e_row {cA : Nat → ClassId} {ad : Nat → Nat} {kd : mK} {I I' : mI} {J J' : mJ} {P P' : mP} {b : Nat} (hI : I' b = I b) (hJ : J' b = J b) (hP : P' b = P b) : am_e cA ad kd I' J' P' b = am_e cA ad kd I J P b := by
  have hf : ∀ ci, am_fs ad I' J' P' ci b = am_fs ad I J P ci b := fun ci => by
    unfold am_fs
    apply List.map_congr_left
    intro k _
    unfold am_f
    rw [hI, hJ, hP]
  unfold am_e
  rw [hI, hJ]
  cases kd b with
  | none => rfl
  | some x =>
    obtain ⟨t, n⟩ := x
    match t with
    | 0 => simp [hf]
    | 1 => rfl
    | 2 => rfl
    | 3 => rfl
    | 4 => rfl
    | k + 5 => rfl
theorem am_fs_at {ad : Nat → Nat} {I : mI} {J : mJ} {P : mP} {ci a k : Nat} (h : k < aN ci) : (am_fs ad I J P ci a)[k]? = some (am_f ad I J P ci a k) := by simp [am_fs, List.getElem?_map, List.getElem?_range h]
theorem am_fs_len {ad : Nat → Nat} {I : mI} {J : mJ} {P : mP} {ci a : Nat} : (am_fs ad I J P ci a).length = aN ci := by simp [am_fs]
theorem am_fs_set {ad : Nat → Nat} {I I' : mI} {J J' : mJ} {P P' : mP} {ci a k : Nat} {v : Value} (hv : am_f ad I' J' P' ci a k = v) (ho : ∀ j, j ≠ k → am_f ad I' J' P' ci a j = am_f ad I J P ci a j) : (am_fs ad I J P ci a).set k v = am_fs ad I' J' P' ci a := by
  apply List.ext_getElem?
  intro b
  rw [List.getElem?_set]
  by_cases hb : b < aN ci
  · rw [am_fs_at hb, am_fs_at hb, am_fs_len]
    by_cases hab : k = b
    · subst hab; simp [hb, hv]
    · simp [hab, ho b (fun q => hab q.symm)]
  · have h1 : (am_fs ad I J P ci a)[b]? = none := List.getElem?_eq_none (by rw [am_fs_len]; omega)
    have h2 : (am_fs ad I' J' P' ci a)[b]? = none := List.getElem?_eq_none (by rw [am_fs_len]; omega)
    rw [h1, h2, am_fs_len]
    by_cases hab : k = b
    · subst hab; simp [hb]
    · simp [hab]
theorem am_up_s {α : Type} (F : Nat → α) (a : Nat) (r : α) : va_up F a r a = r := by simp [va_up]
theorem am_up_n {α : Type} (F : Nat → α) {a b : Nat} (r : α) (h : b ≠ a) : va_up F a r b = F b := by simp [va_up, h]
/-- new address for the next id: nothing that is known changes -/
theorem am_ad_new {ad : Nat → Nat} {n q : Nat} (hn : n < 1000000) : ∀ a, a < n ∨ 1000000 ≤ a → va_up ad n q a = ad a := fun a h => am_up_n ad q (by omega)
theorem am_e_ad {cA : Nat → ClassId} {ad ad' : Nat → Nat} {n : Nat} {kd : mK} {I : mI} {J : mJ} {P : mP} (hP : ∀ a k b, P a k = some b → b < n) (h : ∀ a, a < n ∨ 1000000 ≤ a → ad' a = ad a) (a : Nat) : am_e cA ad' kd I J P a = am_e cA ad kd I J P a := by
  have hf : ∀ ci, am_fs ad' I J P ci a = am_fs ad I J P ci a := fun ci => by
    unfold am_fs
    apply List.map_congr_left
    intro k _
    unfold am_f
    have hm : (P a k).map ad' = (P a k).map ad := by
      cases hp : P a k with
      | none => rfl
      | some b => show some (ad' b) = some (ad b); rw [h b (Or.inl (hP a k b hp))]
    rw [hm]
  unfold am_e
  cases kd a with
  | none => rfl
  | some x =>
    obtain ⟨t, n⟩ := x
    match t with
    | 0 => simp [hf]
    | 1 => rfl
    | 2 => rfl
    | 3 => rfl
    | 4 => rfl
    | k + 5 => rfl
theorem am_w_ad {cA : Nat → ClassId} {ad ad' : Nat → Nat} {n : Nat} {kd : mK} {I : mI} {J : mJ} {P : mP} (hP : ∀ a k b, P a k = some b → b < n) (h : ∀ a, a < n ∨ 1000000 ≤ a → ad' a = ad a) : am_w cA ad' n kd I J P = am_w cA ad n kd I J P := by
  unfold am_w
  apply List.map_congr_left
  intro a ha
  rw [h a (Or.inl (List.mem_range.mp ha)), am_e_ad hP h a]
theorem am_w_push {cA : Nat → ClassId} {ad : Nat → Nat} {n q : Nat} {kd kd' : mK} {I I' : mI} {J J' : mJ} {P P' : mP} {E : va_E} (hn : n < 1000000) (hP : ∀ a k b, P a k = some b → b < n) (hk : ∀ a, a < n → kd' a = kd a) (hI : ∀ a, a < n → I' a = I a) (hJ : ∀ a, a < n → J' a = J a) (hP' : ∀ a, a < n → P' a = P a) (hE : am_e cA (va_up ad n q) kd' I' J' P' n = E) : am_w cA ad n kd I J P ++ [(q, E)] = am_w cA (va_up ad n q) (n + 1) kd' I' J' P' := by
  have h0 : am_w cA ad n kd I J P = am_w cA (va_up ad n q) n kd I J P := (am_w_ad hP (am_ad_new hn)).symm
  rw [h0]
  unfold am_w
  rw [List.range_succ, List.map_append, List.map_singleton, am_up_s, hE]
  congr 1
  apply List.map_congr_left
  intro a ha
  have ha := List.mem_range.mp ha
  have h1 : am_e cA (va_up ad n q) kd' I' J' P' a = am_e cA (va_up ad n q) kd' I J P a := am_e_row (hI a ha) (hJ a ha) (hP' a ha)
  rw [h1]
  have h2 : am_e cA (va_up ad n q) kd' I J P a = am_e cA (va_up ad n q) kd I J P a := by unfold am_e; rw [hk a ha]
  rw [h2]
