/-! RULES OF FIELDS, ARRAYS, NEW CELLS -/
def am_t (ty : FieldType) : Nat := match ty with
  | .long => 1
  | .object _ => 2
  | .array _ => 2
  | _ => 0
def am_tok (ty : FieldType) : Bool := match ty with
  | .int => true
  | .boolean => true
  | .long => true
  | .object _ => true
  | .array _ => true
  | _ => false
theorem a_tok : ∀ ci, ci < 11 → ∀ k, k < aN ci → am_tok (aY ci k) = true := by decide +kernel
theorem am_f0 {ad : Nat → Nat} {I : mI} {J : mJ} {P : mP} {ci a k : Nat} (h : am_t (aY ci k) = 0) : am_f ad I J P ci a k = .int (I a k) := by
  unfold am_f
  cases hy : aY ci k <;> first | rfl | (rw [hy] at h; cases h)
theorem am_f1 {ad : Nat → Nat} {I : mI} {J : mJ} {P : mP} {ci a k : Nat} (h : am_t (aY ci k) = 1) : am_f ad I J P ci a k = .long (J a k) := by
  unfold am_f
  cases hy : aY ci k <;> first | rfl | (rw [hy] at h; cases h)
theorem am_f2 {ad : Nat → Nat} {I : mI} {J : mJ} {P : mP} {ci a k : Nat} (h : am_t (aY ci k) = 2) : am_f ad I J P ci a k = va_rf ((P a k).map ad) := by
  unfold am_f
  cases hy : aY ci k <;> first | rfl | (rw [hy] at h; cases h)
theorem am_f_row {ad : Nat → Nat} {I I' : mI} {J J' : mJ} {P P' : mP} {ci a k : Nat} (hI : I' a k = I a k) (hJ : J' a k = J a k) (hP : P' a k = P a k) : am_f ad I' J' P' ci a k = am_f ad I J P ci a k := by unfold am_f; rw [hI, hJ, hP]
theorem am_up2s {α : Type} (F : Nat → Nat → α) (a k : Nat) (x : α) : va_up F a (va_up (F a) k x) a k = x := by rw [am_up_s, am_up_s]
theorem am_up2n {α : Type} (F : Nat → Nat → α) (a k j : Nat) (x : α) (h : j ≠ k) : va_up F a (va_up (F a) k x) a j = F a j := by rw [am_up_s, am_up_n _ _ h]
def Fl (own : String) (idx ci k : Nat) : Prop := Cond.fieldLink own idx (aT ci k).1 (aT ci k).2.1 (aT ci k).2.2.1 ∈ gw ∧ ci < 11 ∧ k < aN ci
section Rules
variable {Z : am_Z} {own : String} {cc : ByteArray} {nL : Nat} {ret : Option FieldType} {nm : String} {d kc ks pc : Nat} {post : am_Post} {ls : List (Option Value)} {st : List Value} {n : Nat} {kd : mK} {I : mI} {J : mJ} {P : mP}
theorem r_getI {idx ci k a : Nat} (hd : decode cc pc = .ok (.getfield idx, 3)) (hf : Fl own idx ci k) (hy : am_t (aY ci k) = 0) (hk : kd a = some (0, ci)) (kk : RuZ Z own cc nL ret nm d post kc ks (pc + 3) ls (.int (I a k) :: st) n kd I J P) : RuZ Z own cc nL ret nm d post kc ks pc ls (.ref a :: st) n kd I J P := by
  intro p l e R s m args below meth c MC MS A D cA ad Qc XC free H locs cells slots lsC C r wf wl ws hl hc hs he
  exact va_get (D := D) (ci := ci) (C := aR ci) (T := aT ci) (N := aN ci) (v := .int (I a k)) (cx_x C) (cx_b C) (cx_ts C) (a_in ci hf.2.1) (cx_own C) (cx_K C) r.1 a (by rw [am_w_at (wf.1 a _ hk), am_e_obj hk]) (a_cl ci hf.2.1) k hf.2.2 (cx_ts C _ hf.1) (fun _ h => h) (by rw [am_fs_at hf.2.2, am_f0 hy]) hd
    (kk p l e R s m args below meth c MC MS A D cA ad Qc XC free H locs cells slots lsC C r wf wl (ok_c am_ok_i (ok_t ws)) hl hc hs he)
theorem r_getJ {idx ci k a : Nat} (hd : decode cc pc = .ok (.getfield idx, 3)) (hf : Fl own idx ci k) (hy : am_t (aY ci k) = 1) (hk : kd a = some (0, ci)) (kk : RuZ Z own cc nL ret nm d post kc ks (pc + 3) ls (.long (J a k) :: st) n kd I J P) : RuZ Z own cc nL ret nm d post kc ks pc ls (.ref a :: st) n kd I J P := by
  intro p l e R s m args below meth c MC MS A D cA ad Qc XC free H locs cells slots lsC C r wf wl ws hl hc hs he
  exact va_get (D := D) (ci := ci) (C := aR ci) (T := aT ci) (N := aN ci) (v := .long (J a k)) (cx_x C) (cx_b C) (cx_ts C) (a_in ci hf.2.1) (cx_own C) (cx_K C) r.1 a (by rw [am_w_at (wf.1 a _ hk), am_e_obj hk]) (a_cl ci hf.2.1) k hf.2.2 (cx_ts C _ hf.1) (fun _ h => h) (by rw [am_fs_at hf.2.2, am_f1 hy]) hd
    (kk p l e R s m args below meth c MC MS A D cA ad Qc XC free H locs cells slots lsC C r wf wl (ok_c am_ok_l (ok_t ws)) hl hc hs he)
theorem r_getR {idx ci k a b : Nat} (hd : decode cc pc = .ok (.getfield idx, 3)) (hf : Fl own idx ci k) (hy : am_t (aY ci k) = 2) (hk : kd a = some (0, ci)) (hb : P a k = some b) (kk : RuZ Z own cc nL ret nm d post kc ks (pc + 3) ls (.ref b :: st) n kd I J P) : RuZ Z own cc nL ret nm d post kc ks pc ls (.ref a :: st) n kd I J P := by
  intro p l e R s m args below meth c MC MS A D cA ad Qc XC free H locs cells slots lsC C r wf wl ws hl hc hs he
  exact va_get (D := D) (ci := ci) (C := aR ci) (T := aT ci) (N := aN ci) (v := .ref (ad b)) (cx_x C) (cx_b C) (cx_ts C) (a_in ci hf.2.1) (cx_own C) (cx_K C) r.1 a (by rw [am_w_at (wf.1 a _ hk), am_e_obj hk]) (a_cl ci hf.2.1) k hf.2.2 (cx_ts C _ hf.1) (fun _ h => h) (by rw [am_fs_at hf.2.2, am_f2 hy, hb]; rfl) hd
    (kk p l e R s m args below meth c MC MS A D cA ad Qc XC free H locs cells slots lsC C r wf wl (ok_c (fun z e => by cases e; exact Or.inl (wf.2.1 a k b hb)) (ok_t ws)) hl hc hs he)
theorem r_getN {idx ci k a : Nat} (hd : decode cc pc = .ok (.getfield idx, 3)) (hf : Fl own idx ci k) (hy : am_t (aY ci k) = 2) (hk : kd a = some (0, ci)) (hb : P a k = none) (kk : RuZ Z own cc nL ret nm d post kc ks (pc + 3) ls (.null :: st) n kd I J P) : RuZ Z own cc nL ret nm d post kc ks pc ls (.ref a :: st) n kd I J P := by
  intro p l e R s m args below meth c MC MS A D cA ad Qc XC free H locs cells slots lsC C r wf wl ws hl hc hs he
  exact va_get (D := D) (ci := ci) (C := aR ci) (T := aT ci) (N := aN ci) (v := .null) (cx_x C) (cx_b C) (cx_ts C) (a_in ci hf.2.1) (cx_own C) (cx_K C) r.1 a (by rw [am_w_at (wf.1 a _ hk), am_e_obj hk]) (a_cl ci hf.2.1) k hf.2.2 (cx_ts C _ hf.1) (fun _ h => h) (by rw [am_fs_at hf.2.2, am_f2 hy, hb]; rfl) hd
    (kk p l e R s m args below meth c MC MS A D cA ad Qc XC free H locs cells slots lsC C r wf wl (ok_c am_ok_n (ok_t ws)) hl hc hs he)
/-- a store: final fields in constructors too -/
theorem r_put {idx ci k a : Nat} {v : Value} {I' : mI} {J' : mJ} {P' : mP} (hd : decode cc pc = .ok (.putfield idx, 3)) (hf : Fl own idx ci k) (hfin : (aT ci k).2.2.2 = false ∨ ((aT ci k).2.2.2 = true ∧ nm = "<init>" ∧ (aT ci k).1 = own)) (hn : ∀ ad, narrow (aY ci k) (am_v ad v) = am_v ad v) (hfit : ∀ ad, fits (aY ci k) (am_v ad v) = true) (hk : kd a = some (0, ci))
    (hv : ∀ ad, am_f ad I' J' P' ci a k = am_v ad v) (hI : ∀ j, j ≠ k → I' a j = I a j) (hJ : ∀ j, j ≠ k → J' a j = J a j) (hP : ∀ j, j ≠ k → P' a j = P a j) (hI2 : ∀ b, b ≠ a → I' b = I b) (hJ2 : ∀ b, b ≠ a → J' b = J b) (hP2 : ∀ b, b ≠ a → P' b = P b) (hw : am_ok n v → am_WF n kd P → am_WF n kd P')
    (kk : RuZ Z own cc nL ret nm d post kc ks (pc + 3) ls st n kd I' J' P') : RuZ Z own cc nL ret nm d post kc ks pc ls (v :: .ref a :: st) n kd I J P := by
  intro p l e R s m args below meth c MC MS A D cA ad Qc XC free H locs cells slots lsC C r wf wl ws hl hc hs he
  have hset : (am_w cA ad n kd I J P).set a (ad a, .inr (ci, (am_fs ad I J P ci a).set k (am_v ad v))) = am_w cA ad n kd I' J' P' := by
    rw [am_fs_set (hv ad) (fun j hj => am_f_row (hI j hj) (hJ j hj) (hP j hj))]
    exact am_w_set (am_e_obj hk) (fun b hb => am_e_row (hI2 b hb) (hJ2 b hb) (hP2 b hb))
  have go : ∀ (H1 : Heap) (locs1 : List Loc), va_P D vwCl ((am_w cA ad n kd I J P).set a (ad a, .inr (ci, (am_fs ad I J P ci a).set k (am_v ad v)))) H1 → va_D A ((am_w cA ad n kd I J P).set a (ad a, .inr (ci, (am_fs ad I J P ci a).set k (am_v ad v)))) → va_S A s.heap H1 locs1 → W p l e R s m args below meth c H1 locs1 cells slots (vx_MQ below Qc XC args s MC MS free) (F0 m (pc + 3) lsC (st.map (am_v ad))) := by
    intro H1 locs1 hP1 hD1 hS1
    rw [hset] at hP1 hD1
    exact kk p l e R s m args below meth c MC MS A D cA ad Qc XC free H1 locs1 cells slots lsC C ⟨hP1, hD1, hS1⟩ (hw (ok_h ws) wf) wl (ok_t (ok_t ws)) hl hc hs he
  rcases hfin with hfin | ⟨hfin, hin, hde⟩
  · exact va_put (D := D) (ci := ci) (v := am_v ad v) (ty := aY ci k) (C := aR ci) (T := aT ci) (N := aN ci) (cx_x C) (cx_b C) (cx_ts C) (a_in ci hf.2.1) (aY ci) (a_ty ci hf.2.1) (a_nm ci hf.2.1) (cx_own C) (cx_K C) r.1 r.2.1 r.2.2 a (by rw [am_w_at (wf.1 a _ hk), am_e_obj hk]) (a_cl ci hf.2.1) k hf.2.2 (cx_ts C _ hf.1) (fun _ h => h) hfin (a_ty ci hf.2.1 k hf.2.2) (hn ad) (hfit ad) (by rw [am_fs_len]; exact hf.2.2) hd go
  · exact va_putF (D := D) (ci := ci) (v := am_v ad v) (ty := aY ci k) (C := aR ci) (T := aT ci) (N := aN ci) (cx_x C) (cx_b C) (cx_ts C) (a_in ci hf.2.1) (aY ci) (a_ty ci hf.2.1) (a_nm ci hf.2.1) (cx_own C) (cx_K C) r.1 r.2.1 r.2.2 a (by rw [am_w_at (wf.1 a _ hk), am_e_obj hk]) (a_cl ci hf.2.1) k hf.2.2 (cx_ts C _ hf.1) (fun _ h => h) hfin ((cx_nm C).trans hin) hde (a_ty ci hf.2.1 k hf.2.2) (hn ad) (hfit ad) (by rw [am_fs_len]; exact hf.2.2) hd go
theorem r_putI {idx ci k a : Nat} {x : Int32} (hd : decode cc pc = .ok (.putfield idx, 3)) (hf : Fl own idx ci k) (hfin : (aT ci k).2.2.2 = false) (hy : aY ci k = .int) (hk : kd a = some (0, ci)) (kk : RuZ Z own cc nL ret nm d post kc ks (pc + 3) ls st n kd (va_up I a (va_up (I a) k x)) J P) : RuZ Z own cc nL ret nm d post kc ks pc ls (.int x :: .ref a :: st) n kd I J P :=
  r_put (v := .int x) hd hf (Or.inl hfin) (fun _ => by rw [hy]; rfl) (fun _ => by rw [hy]; rfl) hk (fun _ => by rw [am_f0 (by rw [hy]; rfl), am_up2s]; rfl) (fun j hj => am_up2n I a k j x hj) (fun _ _ => rfl) (fun _ _ => rfl) (fun b hb => am_up_n I _ hb) (fun _ _ => rfl) (fun _ _ => rfl) (fun _ h => h) kk
theorem r_putZ {idx ci k a : Nat} {x : Int32} (hd : decode cc pc = .ok (.putfield idx, 3)) (hf : Fl own idx ci k) (hfin : (aT ci k).2.2.2 = false) (hy : aY ci k = .boolean) (hx : x = 0 ∨ x = 1) (hk : kd a = some (0, ci)) (kk : RuZ Z own cc nL ret nm d post kc ks (pc + 3) ls st n kd (va_up I a (va_up (I a) k x)) J P) : RuZ Z own cc nL ret nm d post kc ks pc ls (.int x :: .ref a :: st) n kd I J P :=
  r_put (v := .int x) hd hf (Or.inl hfin) (fun _ => by rw [hy]; rcases hx with rfl | rfl <;> rfl) (fun _ => by rw [hy]; rcases hx with rfl | rfl <;> rfl) hk (fun _ => by rw [am_f0 (by rw [hy]; rfl), am_up2s]; rfl) (fun j hj => am_up2n I a k j x hj) (fun _ _ => rfl) (fun _ _ => rfl) (fun b hb => am_up_n I _ hb) (fun _ _ => rfl) (fun _ _ => rfl) (fun _ h => h) kk
theorem r_putJ {idx ci k a : Nat} {x : Int64} (hd : decode cc pc = .ok (.putfield idx, 3)) (hf : Fl own idx ci k) (hfin : (aT ci k).2.2.2 = false) (hy : aY ci k = .long) (hk : kd a = some (0, ci)) (kk : RuZ Z own cc nL ret nm d post kc ks (pc + 3) ls st n kd I (va_up J a (va_up (J a) k x)) P) : RuZ Z own cc nL ret nm d post kc ks pc ls (.long x :: .ref a :: st) n kd I J P :=
  r_put (v := .long x) hd hf (Or.inl hfin) (fun _ => by rw [hy]; rfl) (fun _ => by rw [hy]; rfl) hk (fun _ => by rw [am_f1 (by rw [hy]; rfl), am_up2s]; rfl) (fun _ _ => rfl) (fun j hj => am_up2n J a k j x hj) (fun _ _ => rfl) (fun _ _ => rfl) (fun b hb => am_up_n J _ hb) (fun _ _ => rfl) (fun _ h => h) kk
theorem am_WF_put {n : Nat} {kd : mK} {P : mP} {a k : Nat} {x : Option Nat} (hx : ∀ b, x = some b → b < n) (h : am_WF n kd P) : am_WF n kd (va_up P a (va_up (P a) k x)) := by
  refine ⟨h.1, fun b j q hq => ?_, h.2.2⟩
  by_cases hb : b = a
  · subst hb
    by_cases hj : j = k
    · subst hj; rw [am_up2s] at hq; exact hx q hq
    · rw [am_up2n P b k j x hj] at hq; exact h.2.1 b j q hq
  · rw [am_up_n P _ hb] at hq; exact h.2.1 b j q hq
theorem r_putR {idx ci k a b : Nat} (hd : decode cc pc = .ok (.putfield idx, 3)) (hf : Fl own idx ci k) (hfin : (aT ci k).2.2.2 = false ∨ ((aT ci k).2.2.2 = true ∧ nm = "<init>" ∧ (aT ci k).1 = own)) (hy : am_t (aY ci k) = 2) (hk : kd a = some (0, ci)) (hb : b < 1000000) (kk : RuZ Z own cc nL ret nm d post kc ks (pc + 3) ls st n kd I J (va_up P a (va_up (P a) k (some b)))) : RuZ Z own cc nL ret nm d post kc ks pc ls (.ref b :: .ref a :: st) n kd I J P :=
  r_put (v := .ref b) hd hf hfin (fun ad => by cases hz : aY ci k <;> first | rfl | (rw [hz] at hy; cases hy)) (fun ad => by cases hz : aY ci k <;> first | rfl | (rw [hz] at hy; cases hy)) hk (fun _ => by rw [am_f2 hy, am_up2s]; rfl) (fun _ _ => rfl) (fun _ _ => rfl) (fun j hj => am_up2n P a k j (some b) hj) (fun _ _ => rfl) (fun _ _ => rfl) (fun c hc => am_up_n P _ hc) (fun h0 h => am_WF_put (fun z e => by cases e; exact (h0 b rfl).elim id (fun q => absurd (Nat.lt_of_lt_of_le hb q) (Nat.lt_irrefl _))) h) kk
theorem r_putN {idx ci k a : Nat} (hd : decode cc pc = .ok (.putfield idx, 3)) (hf : Fl own idx ci k) (hfin : (aT ci k).2.2.2 = false) (hy : am_t (aY ci k) = 2) (hk : kd a = some (0, ci)) (kk : RuZ Z own cc nL ret nm d post kc ks (pc + 3) ls st n kd I J (va_up P a (va_up (P a) k none))) : RuZ Z own cc nL ret nm d post kc ks pc ls (.null :: .ref a :: st) n kd I J P :=
  r_put (v := .null) hd hf (Or.inl hfin) (fun ad => by cases hz : aY ci k <;> first | rfl | (rw [hz] at hy; cases hy)) (fun ad => by cases hz : aY ci k <;> first | rfl | (rw [hz] at hy; cases hy)) hk (fun _ => by rw [am_f2 hy, am_up2s]; rfl) (fun _ _ => rfl) (fun _ _ => rfl) (fun j hj => am_up2n P a k j none hj) (fun _ _ => rfl) (fun _ _ => rfl) (fun c hc => am_up_n P _ hc) (fun _ h => am_WF_put (fun z e => nomatch e) h) kk
end Rules
