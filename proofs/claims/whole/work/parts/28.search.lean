/-! THE SEARCH, PURE: houses get numbers one try behind the other; and its memory -/
def upN (N : Nat → Nat) (h v : Nat) : Nat → Nat := fun j => if j = h then v else N j
/-- fuel, house + 1 (0: ended), numbers, tries, found (the last one first): tries, found, spent -/
def sk (T : (Nat → Nat) → Nat → Bool) (bar : Nat → Nat → Bool) (H M E : Nat) : Nat → Nat → (Nat → Nat) → Nat → List (Nat → Nat) → Option (Nat × List (Nat → Nat) × Bool)
  | 0, _, _, _, _ => none
  | _ + 1, 0, _, t, fs => some (t, fs, false)
  | f + 1, h + 1, N, t, fs =>
    if M ≤ N h then sk T bar H M E f h (upN N h 0) t fs
    else if bar h (N h + 1) then sk T bar H M E f (h + 1) (upN N h (N h + 1)) t fs
    else if t = 20000 then some (t, fs, true)
    else if T (upN N h (N h + 1)) h then
      (if h + 1 < H then sk T bar H M E f (h + 2) (upN N h (N h + 1)) (t + 1) fs
       else if fs.length + 1 = E then some (t + 1, upN N h (N h + 1) :: fs, false)
       else sk T bar H M E f (h + 1) (upN N h (N h + 1)) (t + 1) (upN N h (N h + 1) :: fs))
    else sk T bar H M E f (h + 1) (upN N h (N h + 1)) (t + 1) fs
def hz (hh : Nat) : Int32 := match hh with
  | 0 => -1
  | k + 1 => nI k
theorem hz_dec (h : Nat) : nI h + Int32.ofInt (-1) = hz h := by
  cases h with
  | zero => rfl
  | succ k => exact nI_dec k
def rN (N : Nat → Nat) : Nat → Int32 := fun j => nI (N j)
def SR (H : Nat) (S0 : Nat → Int32) : List (Nat → Nat) → Nat → Int32
  | [] => S0
  | N :: fs => snR (rN N) (SR H S0 fs) H
def JR (H : Nat) (J0 : Nat → Int64) : List (Nat → Nat) → Nat → Int64
  | [] => J0
  | N :: fs => if fs.length < 1000 then va_up (JR H J0 fs) fs.length (pkR (rN N) H) else JR H J0 fs
theorem pkR_congr {N N' : Nat → Int32} : ∀ {i : Nat}, (∀ j, j < i → N j = N' j) → pkR N i = pkR N' i
  | 0, _ => rfl
  | i + 1, h => by rw [pkR, pkR, pkR_congr (fun j hj => h j (by omega)), h i (by omega)]
theorem snR_congr {N N' S : Nat → Int32} : ∀ {i : Nat}, (∀ j, j < i → N j = N' j) → snR N S i = snR N' S i
  | 0, _ => rfl
  | i + 1, h => by rw [snR, snR, snR_congr (fun j hj => h j (by omega)), h i (by omega)]
def oR (r : Nat → Int32) (t F : Int32) : Nat → Int32 := va_up (va_up r 9 t) 10 F
theorem oR9 (r : Nat → Int32) (t F : Int32) : oR r t F 9 = t := by simp [oR, va_up]
theorem oR10 (r : Nat → Int32) (t F : Int32) : oR r t F 10 = F := by simp [oR, va_up]
theorem oR4 (r : Nat → Int32) (t F : Int32) : oR r t F 4 = r 4 := by simp [oR, va_up]
theorem oR5 (r : Nat → Int32) (t F : Int32) : oR r t F 5 = r 5 := by simp [oR, va_up]
theorem oR_9 (r : Nat → Int32) (t F x : Int32) : va_up (oR r t F) 9 x = oR r x F := by unfold oR; rw [am_up_cm _ _ _ (by decide : (10 : Nat) ≠ 9), am_up_up]
theorem oR_10 (r : Nat → Int32) (t F x : Int32) : va_up (oR r t F) 10 x = oR r t x := by unfold oR; rw [am_up_up]
/-- the memory while a search goes on: the pile, the numbers, what was seen, the search's own fields -/
def sM (I : mI) (b o : Nat) (Q R S r : Nat → Int32) : mI := va_up (va_up (va_up (va_up I (b + 8) Q) (o + 3) R) (o + 5) S) o r
section SM
variable {I : mI} {b o : Nat} {Q R S r : Nat → Int32}
theorem sM_o : sM I b o Q R S r o = r := am_up_s _ _ _
theorem sM_3 : sM I b o Q R S r (o + 3) = R := by unfold sM; rw [am_up_n _ _ (by omega), am_up_n _ _ (by omega), am_up_s]
theorem sM_5 : sM I b o Q R S r (o + 5) = S := by unfold sM; rw [am_up_n _ _ (by omega), am_up_s]
theorem sM_n {a : Nat} (h1 : a ≠ b + 8) (h2 : a ≠ o + 3) (h3 : a ≠ o + 5) (h4 : a ≠ o) : sM I b o Q R S r a = I a := by unfold sM; rw [am_up_n _ _ h4, am_up_n _ _ h3, am_up_n _ _ h2, am_up_n _ _ h1]
theorem sM_uo {x : Nat → Int32} : va_up (sM I b o Q R S r) o x = sM I b o Q R S x := by unfold sM; rw [am_up_up]
theorem sM_u3 {x : Nat → Int32} : va_up (sM I b o Q R S r) (o + 3) x = sM I b o Q x S r := by unfold sM; rw [am_up_cm _ _ _ (by omega : o ≠ o + 3), am_up_cm _ _ _ (by omega : o + 5 ≠ o + 3), am_up_up]
theorem sM_u5 {x : Nat → Int32} : va_up (sM I b o Q R S r) (o + 5) x = sM I b o Q R x r := by unfold sM; rw [am_up_cm _ _ _ (by omega : o ≠ o + 5), am_up_up]
theorem sM_u8 {x : Nat → Int32} (hb : b + 9 < o) : va_up (sM I b o Q R S r) (b + 8) x = sM I b o x R S r := by unfold sM; rw [am_up_cm _ _ _ (by omega : o ≠ b + 8), am_up_cm _ _ _ (by omega : o + 5 ≠ b + 8), am_up_cm _ _ _ (by omega : o + 3 ≠ b + 8), am_up_up]
end SM
theorem unl_congr {N N' : Nat → Int32} {v : Int32} : ∀ {c k : Nat}, (∀ j, j < k + c → N j = N' j) → unl N v c k = unl N' v c k
  | 0, _, _ => rfl
  | c + 1, k, h => by rw [unl, unl, h k (by omega), unl_congr (fun j hj => h j (by omega))]
theorem opdS_congr {I1 I2 : mI} {b q l h H : Nat} (hb : I1 b = I2 b) (h1 : I1 (l + 1) = I2 (l + 1)) (h2 : I1 (l + 2) = I2 (l + 2)) (hq : ∀ j, j < H → I1 q j = I2 q j) : opdS I1 b q l h H = opdS I2 b q l h H := by
  funext c
  unfold opdS
  rw [hb, h1, h2]
  split
  · split
    · rename_i h3; rw [hq _ h3]
    · rfl
  · rfl
theorem stS_congr {I1 I2 : mI} {o b l H h v : Nat} {rid : Nat → List Nat} (hb : I1 b = I2 b) (hl1 : I1 (l + 1) = I2 (l + 1)) (hl2 : I1 (l + 2) = I2 (l + 2)) (ho1 : I1 (o + 1) = I2 (o + 1)) (ho2 : I1 (o + 2) = I2 (o + 2)) (hq : ∀ j, j < H → I1 (o + 3) j = I2 (o + 3) j) (hh : h < H) : stS I1 o b l H rid h v = stS I2 o b l H rid h v := by
  unfold stS
  have hval : valS I1 b (o + 3) l H rid = valS I2 b (o + 3) l H rid := by
    funext k
    unfold valS
    rw [opdS_congr hb hl1 hl2 hq]
  rw [hb, ho1, ho2, hval, hq h hh, unl_congr (fun j hj => hq j (by omega))]
/-- does the number of house h stand, the numbers being N -/
def TS (I : mI) (o b l H : Nat) (rid : Nat → List Nat) (N : Nat → Nat) (h : Nat) : Bool := stS (va_up I (o + 3) (rN N)) o b l H rid h (N h)
def barS (x y : Int32) (h v : Nat) : Bool := decide (nI h = x) && decide (nI v = y)
