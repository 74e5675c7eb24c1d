/-! A TEXT CUT INTO TOKENS -/
abbrev Tok : Type := Int32 × Nat × Nat
def trow (f : Tok → Int32) (ts : List Tok) (W : Nat → Int32) : Nat → Int32 := fun j => match ts[j]? with
  | some t => f t
  | none => W j
theorem trow_snoc (f : Tok → Int32) (ts : List Tok) (t : Tok) (W : Nat → Int32) : trow f (ts ++ [t]) W = va_up (trow f ts W) ts.length (f t) := by
  funext j
  unfold va_up trow
  by_cases h : j = ts.length
  · subst h; simp
  · by_cases h2 : j < ts.length
    · simp [h, List.getElem?_append_left h2]
    · have h3 : (ts ++ [t])[j]? = none := List.getElem?_eq_none (by simp; omega)
      have h4 : ts[j]? = none := List.getElem?_eq_none (by omega)
      simp [h, h3, h4]
def tI (r : Nat) (ts : List Tok) (I : mI) : mI := fun a => if a = r then (fun j => if j = 5 then nI ts.length else I r j) else if a = r + 2 then trow (fun t => t.1) ts (I (r + 2)) else if a = r + 3 then trow (fun t => nI t.2.1) ts (I (r + 3)) else if a = r + 4 then trow (fun t => nI t.2.2) ts (I (r + 4)) else I a
theorem tI_5 (r : Nat) (ts : List Tok) (I : mI) : tI r ts I r 5 = nI ts.length := by simp [tI]
theorem tI_r {r j : Nat} (ts : List Tok) (I : mI) (h : j ≠ 5) : tI r ts I r j = I r j := by simp [tI, h]
theorem tI_ne {r a : Nat} (ts : List Tok) (I : mI) (h : a < r ∨ r + 4 < a) : tI r ts I a = I a := by simp [tI, show a ≠ r by omega, show a ≠ r + 2 by omega, show a ≠ r + 3 by omega, show a ≠ r + 4 by omega]
theorem tI_k (r : Nat) (ts : List Tok) (I : mI) : tI r ts I (r + 2) = trow (fun t => t.1) ts (I (r + 2)) := by simp [tI]
theorem tI_b (r : Nat) (ts : List Tok) (I : mI) : tI r ts I (r + 3) = trow (fun t => nI t.2.1) ts (I (r + 3)) := by simp [tI]
theorem tI_e (r : Nat) (ts : List Tok) (I : mI) : tI r ts I (r + 4) = trow (fun t => nI t.2.2) ts (I (r + 4)) := by simp [tI]
theorem tI_put (r : Nat) (ts : List Tok) (I : mI) (k : Int32) (b e : Nat) : va_up (va_up (va_up (va_up (tI r ts I) (r + 2) (va_up (tI r ts I (r + 2)) ts.length k)) (r + 3) (va_up (tI r ts I (r + 3)) ts.length (nI b))) (r + 4) (va_up (tI r ts I (r + 4)) ts.length (nI e))) r (va_up (tI r ts I r) 5 (nI (ts.length + 1))) = tI r (ts ++ [(k, b, e)]) I := by
  rw [tI_k, tI_b, tI_e]
  funext a
  by_cases h0 : a = r
  · subst h0
    rw [am_up_s]
    funext j
    by_cases hj : j = 5
    · subst hj; rw [am_up_s, tI_5]; simp
    · rw [am_up_n _ _ hj, tI_r _ _ hj, tI_r _ _ hj]
  · rw [am_up_n _ _ h0]
    by_cases h4 : a = r + 4
    · subst h4; rw [am_up_s, tI_e, trow_snoc]
    · rw [am_up_n _ _ h4]
      by_cases h3 : a = r + 3
      · subst h3; rw [am_up_s, tI_b, trow_snoc]
      · rw [am_up_n _ _ h3]
        by_cases h2 : a = r + 2
        · subst h2; rw [am_up_s, tI_k, trow_snoc]
        · rw [am_up_n _ _ h2]; simp [tI, h0, h2, h3, h4]
def isL (x : Int32) : Bool := !decide (x < nI 97) && !decide (nI 122 < x)
def isD (x : Int32) : Bool := !decide (x < nI 48) && !decide (nI 57 < x)
def isG (x : Int32) : Bool := decide (x = nI 59) || decide (x = nI 40) || decide (x = nI 41) || decide (x = nI 43) || decide (x = nI 45) || decide (x = nI 42) || decide (x = nI 47) || decide (x = nI 60) || decide (x = nI 61)
def runE (p : Int32 → Bool) (X : Nat → Int32) : Nat → Nat → Nat
  | 0, i => i
  | k + 1, i => if p (X i) = true then runE p X k (i + 1) else i
def splF (X : Nat → Int32) (w b : Nat) : Nat → Nat → Bool
  | 0, _ => true
  | k + 1, j => decide (X (b + j) = sC w j) && splF X w b k (j + 1)
def spl (X : Nat → Int32) (w b e : Nat) : Bool := decide (e - b = sN w) && splF X w b (sN w) 0
def kwF (X : Nat → Int32) (b e : Nat) : List (Nat × Nat) → Int32
  | [] => nI 128
  | (w, k) :: t => if spl X w b e = true then nI k else kwF X b e t
def kwL : List (Nat × Nat) := [(0, 129), (1, 130), (2, 131), (3, 132), (4, 133), (5, 134), (6, 135), (7, 136), (8, 137), (9, 138), (10, 139), (11, 140), (12, 141)]
def kow (X : Nat → Int32) (b e : Nat) : Int32 := kwF X b e kwL
def lexF (X : Nat → Int32) (len : Nat) : Nat → Nat → List Tok
  | 0, _ => []
  | k + 1, b => if b < len then (if isL (X b) = true then (kow X b (runE isL X (len - b) b), b, runE isL X (len - b) b) :: lexF X len k (runE isL X (len - b) b) else if isD (X b) = true then (nI 2, b, runE isD X (len - b) b) :: lexF X len k (runE isD X (len - b) b) else if X b = nI 32 ∨ X b = nI 10 then lexF X len k (b + 1) else (if isG (X b) = true then X b else nI 1, b, b + 1) :: lexF X len k (b + 1)) else []
theorem runE_le (p : Int32 → Bool) (X : Nat → Int32) : ∀ (k i : Nat), i ≤ runE p X k i ∧ runE p X k i ≤ i + k
  | 0, i => ⟨Nat.le_refl _, Nat.le_refl _⟩
  | k + 1, i => by
    unfold runE
    split
    · have := runE_le p X k (i + 1); omega
    · omega
theorem runE_gt (p : Int32 → Bool) (X : Nat → Int32) (k i : Nat) (h : p (X i) = true) : i + 1 ≤ runE p X (k + 1) i := by
  unfold runE
  rw [if_pos h]
  exact (runE_le p X k (i + 1)).1
theorem dX5_isLetter_0 : decode cX5_isLetter 0 = .ok (.iload_n 0, 1) := by decide +kernel
theorem dX5_isLetter_1 : decode cX5_isLetter 1 = .ok (.bipush 97, 2) := by decide +kernel
theorem dX5_isLetter_3 : decode cX5_isLetter 3 = .ok (.if_icmp .lt 13, 3) := by decide +kernel
theorem dX5_isLetter_6 : decode cX5_isLetter 6 = .ok (.iload_n 0, 1) := by decide +kernel
theorem dX5_isLetter_7 : decode cX5_isLetter 7 = .ok (.bipush 122, 2) := by decide +kernel
theorem dX5_isLetter_9 : decode cX5_isLetter 9 = .ok (.if_icmp .gt 7, 3) := by decide +kernel
theorem dX5_isLetter_12 : decode cX5_isLetter 12 = .ok (.iconst 1, 1) := by decide +kernel
theorem dX5_isLetter_13 : decode cX5_isLetter 13 = .ok (.goto 4, 3) := by decide +kernel
theorem dX5_isLetter_16 : decode cX5_isLetter 16 = .ok (.iconst 0, 1) := by decide +kernel
theorem dX5_isLetter_17 : decode cX5_isLetter 17 = .ok (.ireturn, 1) := by decide +kernel
set_option maxHeartbeats 4000000 in
set_option maxRecDepth 100000 in
theorem c_X5_isLetter (x : Int32) {n : Nat} {kd : mK} {I : mI} {J : mJ} {P : mP} : Ct yX5_isLetter cX5_isLetter 1 (some .boolean) 1 0 0 [.int x] n kd I J P (am_is (some (.int (bz (isL x)))) n kd I J P) := by
  refine ct_of 0 (by decide +kernel) (Nat.le_of_ble_eq_true rfl) rfl ?_
  refine r_iload_n dX5_isLetter_0 rfl ?_
  refine r_bipush (v := nI 97) dX5_isLetter_1 (by decide) ?_
  refine r_icmp_lt (tgt := 16) dX5_isLetter_3 (by decide) (fun h3 => ?_) (fun h3 => ?_)
  · skip
    refine r_iconst (v := nI 0) dX5_isLetter_16 (by decide) ?_
    refine r_zret rfl dX5_isLetter_17 (by first | exact Or.inl rfl | exact Or.inr rfl | assumption) ?_
    unfold isL bz
    simp [*, Int32.not_lt, Int32.not_le] at *
    try simp [*]
    try exact am_is.mk
  · skip
    refine r_iload_n dX5_isLetter_6 rfl ?_
    refine r_bipush (v := nI 122) dX5_isLetter_7 (by decide) ?_
    refine r_icmp_gt (tgt := 16) dX5_isLetter_9 (by decide) (fun h9 => ?_) (fun h9 => ?_)
    · skip
      refine r_iconst (v := nI 0) dX5_isLetter_16 (by decide) ?_
      refine r_zret rfl dX5_isLetter_17 (by first | exact Or.inl rfl | exact Or.inr rfl | assumption) ?_
      unfold isL bz
      simp [*, Int32.not_lt, Int32.not_le] at *
      try simp [*]
      try exact am_is.mk
    · skip
      refine r_iconst (v := nI 1) dX5_isLetter_12 (by decide) ?_
      refine r_goto (tgt := 17) dX5_isLetter_13 (by decide) ?_
      refine r_zret rfl dX5_isLetter_17 (by first | exact Or.inl rfl | exact Or.inr rfl | assumption) ?_
      unfold isL bz
      simp [*, Int32.not_lt, Int32.not_le] at *
      try simp [*]
      try exact am_is.mk

theorem dX5_isDigit_0 : decode cX5_isDigit 0 = .ok (.iload_n 0, 1) := by decide +kernel
theorem dX5_isDigit_1 : decode cX5_isDigit 1 = .ok (.bipush 48, 2) := by decide +kernel
theorem dX5_isDigit_3 : decode cX5_isDigit 3 = .ok (.if_icmp .lt 13, 3) := by decide +kernel
theorem dX5_isDigit_6 : decode cX5_isDigit 6 = .ok (.iload_n 0, 1) := by decide +kernel
theorem dX5_isDigit_7 : decode cX5_isDigit 7 = .ok (.bipush 57, 2) := by decide +kernel
theorem dX5_isDigit_9 : decode cX5_isDigit 9 = .ok (.if_icmp .gt 7, 3) := by decide +kernel
theorem dX5_isDigit_12 : decode cX5_isDigit 12 = .ok (.iconst 1, 1) := by decide +kernel
theorem dX5_isDigit_13 : decode cX5_isDigit 13 = .ok (.goto 4, 3) := by decide +kernel
theorem dX5_isDigit_16 : decode cX5_isDigit 16 = .ok (.iconst 0, 1) := by decide +kernel
theorem dX5_isDigit_17 : decode cX5_isDigit 17 = .ok (.ireturn, 1) := by decide +kernel
set_option maxHeartbeats 4000000 in
set_option maxRecDepth 100000 in
theorem c_X5_isDigit (x : Int32) {n : Nat} {kd : mK} {I : mI} {J : mJ} {P : mP} : Ct yX5_isDigit cX5_isDigit 1 (some .boolean) 1 0 0 [.int x] n kd I J P (am_is (some (.int (bz (isD x)))) n kd I J P) := by
  refine ct_of 0 (by decide +kernel) (Nat.le_of_ble_eq_true rfl) rfl ?_
  refine r_iload_n dX5_isDigit_0 rfl ?_
  refine r_bipush (v := nI 48) dX5_isDigit_1 (by decide) ?_
  refine r_icmp_lt (tgt := 16) dX5_isDigit_3 (by decide) (fun h3 => ?_) (fun h3 => ?_)
  · skip
    refine r_iconst (v := nI 0) dX5_isDigit_16 (by decide) ?_
    refine r_zret rfl dX5_isDigit_17 (by first | exact Or.inl rfl | exact Or.inr rfl | assumption) ?_
    unfold isD bz
    simp [*, Int32.not_lt, Int32.not_le] at *
    try simp [*]
    try exact am_is.mk
  · skip
    refine r_iload_n dX5_isDigit_6 rfl ?_
    refine r_bipush (v := nI 57) dX5_isDigit_7 (by decide) ?_
    refine r_icmp_gt (tgt := 16) dX5_isDigit_9 (by decide) (fun h9 => ?_) (fun h9 => ?_)
    · skip
      refine r_iconst (v := nI 0) dX5_isDigit_16 (by decide) ?_
      refine r_zret rfl dX5_isDigit_17 (by first | exact Or.inl rfl | exact Or.inr rfl | assumption) ?_
      unfold isD bz
      simp [*, Int32.not_lt, Int32.not_le] at *
      try simp [*]
      try exact am_is.mk
    · skip
      refine r_iconst (v := nI 1) dX5_isDigit_12 (by decide) ?_
      refine r_goto (tgt := 17) dX5_isDigit_13 (by decide) ?_
      refine r_zret rfl dX5_isDigit_17 (by first | exact Or.inl rfl | exact Or.inr rfl | assumption) ?_
      unfold isD bz
      simp [*, Int32.not_lt, Int32.not_le] at *
      try simp [*]
      try exact am_is.mk

theorem dX5_isSign_0 : decode cX5_isSign 0 = .ok (.iload_n 0, 1) := by decide +kernel
theorem dX5_isSign_1 : decode cX5_isSign 1 = .ok (.bipush 59, 2) := by decide +kernel
theorem dX5_isSign_3 : decode cX5_isSign 3 = .ok (.if_icmp .eq 51, 3) := by decide +kernel
theorem dX5_isSign_6 : decode cX5_isSign 6 = .ok (.iload_n 0, 1) := by decide +kernel
theorem dX5_isSign_7 : decode cX5_isSign 7 = .ok (.bipush 40, 2) := by decide +kernel
theorem dX5_isSign_9 : decode cX5_isSign 9 = .ok (.if_icmp .eq 45, 3) := by decide +kernel
theorem dX5_isSign_12 : decode cX5_isSign 12 = .ok (.iload_n 0, 1) := by decide +kernel
theorem dX5_isSign_13 : decode cX5_isSign 13 = .ok (.bipush 41, 2) := by decide +kernel
theorem dX5_isSign_15 : decode cX5_isSign 15 = .ok (.if_icmp .eq 39, 3) := by decide +kernel
theorem dX5_isSign_18 : decode cX5_isSign 18 = .ok (.iload_n 0, 1) := by decide +kernel
theorem dX5_isSign_19 : decode cX5_isSign 19 = .ok (.bipush 43, 2) := by decide +kernel
theorem dX5_isSign_21 : decode cX5_isSign 21 = .ok (.if_icmp .eq 33, 3) := by decide +kernel
theorem dX5_isSign_24 : decode cX5_isSign 24 = .ok (.iload_n 0, 1) := by decide +kernel
theorem dX5_isSign_25 : decode cX5_isSign 25 = .ok (.bipush 45, 2) := by decide +kernel
theorem dX5_isSign_27 : decode cX5_isSign 27 = .ok (.if_icmp .eq 27, 3) := by decide +kernel
theorem dX5_isSign_30 : decode cX5_isSign 30 = .ok (.iload_n 0, 1) := by decide +kernel
theorem dX5_isSign_31 : decode cX5_isSign 31 = .ok (.bipush 42, 2) := by decide +kernel
theorem dX5_isSign_33 : decode cX5_isSign 33 = .ok (.if_icmp .eq 21, 3) := by decide +kernel
theorem dX5_isSign_36 : decode cX5_isSign 36 = .ok (.iload_n 0, 1) := by decide +kernel
theorem dX5_isSign_37 : decode cX5_isSign 37 = .ok (.bipush 47, 2) := by decide +kernel
theorem dX5_isSign_39 : decode cX5_isSign 39 = .ok (.if_icmp .eq 15, 3) := by decide +kernel
theorem dX5_isSign_42 : decode cX5_isSign 42 = .ok (.iload_n 0, 1) := by decide +kernel
theorem dX5_isSign_43 : decode cX5_isSign 43 = .ok (.bipush 60, 2) := by decide +kernel
theorem dX5_isSign_45 : decode cX5_isSign 45 = .ok (.if_icmp .eq 9, 3) := by decide +kernel
theorem dX5_isSign_48 : decode cX5_isSign 48 = .ok (.iload_n 0, 1) := by decide +kernel
theorem dX5_isSign_49 : decode cX5_isSign 49 = .ok (.bipush 61, 2) := by decide +kernel
theorem dX5_isSign_51 : decode cX5_isSign 51 = .ok (.if_icmp .ne 7, 3) := by decide +kernel
theorem dX5_isSign_54 : decode cX5_isSign 54 = .ok (.iconst 1, 1) := by decide +kernel
theorem dX5_isSign_55 : decode cX5_isSign 55 = .ok (.goto 4, 3) := by decide +kernel
theorem dX5_isSign_58 : decode cX5_isSign 58 = .ok (.iconst 0, 1) := by decide +kernel
theorem dX5_isSign_59 : decode cX5_isSign 59 = .ok (.ireturn, 1) := by decide +kernel
set_option maxHeartbeats 4000000 in
set_option maxRecDepth 100000 in
theorem c_X5_isSign (x : Int32) {n : Nat} {kd : mK} {I : mI} {J : mJ} {P : mP} : Ct yX5_isSign cX5_isSign 1 (some .boolean) 1 0 0 [.int x] n kd I J P (am_is (some (.int (bz (isG x)))) n kd I J P) := by
  refine ct_of 0 (by decide +kernel) (Nat.le_of_ble_eq_true rfl) rfl ?_
  refine r_iload_n dX5_isSign_0 rfl ?_
  refine r_bipush (v := nI 59) dX5_isSign_1 (by decide) ?_
  refine r_icmp_eq (tgt := 54) dX5_isSign_3 (by decide) (fun h3 => ?_) (fun h3 => ?_)
  · skip
    refine r_iconst (v := nI 1) dX5_isSign_54 (by decide) ?_
    refine r_goto (tgt := 59) dX5_isSign_55 (by decide) ?_
    refine r_zret rfl dX5_isSign_59 (by first | exact Or.inl rfl | exact Or.inr rfl | assumption) ?_
    unfold isG bz
    simp [*, Int32.not_lt, Int32.not_le] at *
    try simp [*]
    try exact am_is.mk
  · skip
    refine r_iload_n dX5_isSign_6 rfl ?_
    refine r_bipush (v := nI 40) dX5_isSign_7 (by decide) ?_
    refine r_icmp_eq (tgt := 54) dX5_isSign_9 (by decide) (fun h9 => ?_) (fun h9 => ?_)
    · skip
      refine r_iconst (v := nI 1) dX5_isSign_54 (by decide) ?_
      refine r_goto (tgt := 59) dX5_isSign_55 (by decide) ?_
      refine r_zret rfl dX5_isSign_59 (by first | exact Or.inl rfl | exact Or.inr rfl | assumption) ?_
      unfold isG bz
      simp [*, Int32.not_lt, Int32.not_le] at *
      try simp [*]
      try exact am_is.mk
    · skip
      refine r_iload_n dX5_isSign_12 rfl ?_
      refine r_bipush (v := nI 41) dX5_isSign_13 (by decide) ?_
      refine r_icmp_eq (tgt := 54) dX5_isSign_15 (by decide) (fun h15 => ?_) (fun h15 => ?_)
      · skip
        refine r_iconst (v := nI 1) dX5_isSign_54 (by decide) ?_
        refine r_goto (tgt := 59) dX5_isSign_55 (by decide) ?_
        refine r_zret rfl dX5_isSign_59 (by first | exact Or.inl rfl | exact Or.inr rfl | assumption) ?_
        unfold isG bz
        simp [*, Int32.not_lt, Int32.not_le] at *
        try simp [*]
        try exact am_is.mk
      · skip
        refine r_iload_n dX5_isSign_18 rfl ?_
        refine r_bipush (v := nI 43) dX5_isSign_19 (by decide) ?_
        refine r_icmp_eq (tgt := 54) dX5_isSign_21 (by decide) (fun h21 => ?_) (fun h21 => ?_)
        · skip
          refine r_iconst (v := nI 1) dX5_isSign_54 (by decide) ?_
          refine r_goto (tgt := 59) dX5_isSign_55 (by decide) ?_
          refine r_zret rfl dX5_isSign_59 (by first | exact Or.inl rfl | exact Or.inr rfl | assumption) ?_
          unfold isG bz
          simp [*, Int32.not_lt, Int32.not_le] at *
          try simp [*]
          try exact am_is.mk
        · skip
          refine r_iload_n dX5_isSign_24 rfl ?_
          refine r_bipush (v := nI 45) dX5_isSign_25 (by decide) ?_
          refine r_icmp_eq (tgt := 54) dX5_isSign_27 (by decide) (fun h27 => ?_) (fun h27 => ?_)
          · skip
            refine r_iconst (v := nI 1) dX5_isSign_54 (by decide) ?_
            refine r_goto (tgt := 59) dX5_isSign_55 (by decide) ?_
            refine r_zret rfl dX5_isSign_59 (by first | exact Or.inl rfl | exact Or.inr rfl | assumption) ?_
            unfold isG bz
            simp [*, Int32.not_lt, Int32.not_le] at *
            try simp [*]
            try exact am_is.mk
          · skip
            refine r_iload_n dX5_isSign_30 rfl ?_
            refine r_bipush (v := nI 42) dX5_isSign_31 (by decide) ?_
            refine r_icmp_eq (tgt := 54) dX5_isSign_33 (by decide) (fun h33 => ?_) (fun h33 => ?_)
            · skip
              refine r_iconst (v := nI 1) dX5_isSign_54 (by decide) ?_
              refine r_goto (tgt := 59) dX5_isSign_55 (by decide) ?_
              refine r_zret rfl dX5_isSign_59 (by first | exact Or.inl rfl | exact Or.inr rfl | assumption) ?_
              unfold isG bz
              simp [*, Int32.not_lt, Int32.not_le] at *
              try simp [*]
              try exact am_is.mk
            · skip
              refine r_iload_n dX5_isSign_36 rfl ?_
              refine r_bipush (v := nI 47) dX5_isSign_37 (by decide) ?_
              refine r_icmp_eq (tgt := 54) dX5_isSign_39 (by decide) (fun h39 => ?_) (fun h39 => ?_)
              · skip
                refine r_iconst (v := nI 1) dX5_isSign_54 (by decide) ?_
                refine r_goto (tgt := 59) dX5_isSign_55 (by decide) ?_
                refine r_zret rfl dX5_isSign_59 (by first | exact Or.inl rfl | exact Or.inr rfl | assumption) ?_
                unfold isG bz
                simp [*, Int32.not_lt, Int32.not_le] at *
                try simp [*]
                try exact am_is.mk
              · skip
                refine r_iload_n dX5_isSign_42 rfl ?_
                refine r_bipush (v := nI 60) dX5_isSign_43 (by decide) ?_
                refine r_icmp_eq (tgt := 54) dX5_isSign_45 (by decide) (fun h45 => ?_) (fun h45 => ?_)
                · skip
                  refine r_iconst (v := nI 1) dX5_isSign_54 (by decide) ?_
                  refine r_goto (tgt := 59) dX5_isSign_55 (by decide) ?_
                  refine r_zret rfl dX5_isSign_59 (by first | exact Or.inl rfl | exact Or.inr rfl | assumption) ?_
                  unfold isG bz
                  simp [*, Int32.not_lt, Int32.not_le] at *
                  try simp [*]
                  try exact am_is.mk
                · skip
                  refine r_iload_n dX5_isSign_48 rfl ?_
                  refine r_bipush (v := nI 61) dX5_isSign_49 (by decide) ?_
                  refine r_icmp_ne (tgt := 58) dX5_isSign_51 (by decide) (fun h51 => ?_) (fun h51 => ?_)
                  · skip
                    refine r_iconst (v := nI 0) dX5_isSign_58 (by decide) ?_
                    refine r_zret rfl dX5_isSign_59 (by first | exact Or.inl rfl | exact Or.inr rfl | assumption) ?_
                    unfold isG bz
                    simp [*, Int32.not_lt, Int32.not_le] at *
                    try simp [*]
                    try exact am_is.mk
                  · skip
                    refine r_iconst (v := nI 1) dX5_isSign_54 (by decide) ?_
                    refine r_goto (tgt := 59) dX5_isSign_55 (by decide) ?_
                    refine r_zret rfl dX5_isSign_59 (by first | exact Or.inl rfl | exact Or.inr rfl | assumption) ?_
                    unfold isG bz
                    simp [*, Int32.not_lt, Int32.not_le] at *
                    try simp [*]
                    try exact am_is.mk

theorem dX5_addToken_0 : decode cX5_addToken 0 = .ok (.aload_n 0, 1) := by decide +kernel
theorem dX5_addToken_1 : decode cX5_addToken 1 = .ok (.getfield 29, 3) := by decide +kernel
theorem dX5_addToken_4 : decode cX5_addToken 4 = .ok (.aload_n 0, 1) := by decide +kernel
theorem dX5_addToken_5 : decode cX5_addToken 5 = .ok (.getfield 19, 3) := by decide +kernel
theorem dX5_addToken_8 : decode cX5_addToken 8 = .ok (.arraylength, 1) := by decide +kernel
theorem dX5_addToken_9 : decode cX5_addToken 9 = .ok (.if_icmp .lt 4, 3) := by decide +kernel
theorem dX5_addToken_12 : decode cX5_addToken 12 = .ok (.return_, 1) := by decide +kernel
theorem dX5_addToken_13 : decode cX5_addToken 13 = .ok (.aload_n 0, 1) := by decide +kernel
theorem dX5_addToken_14 : decode cX5_addToken 14 = .ok (.getfield 19, 3) := by decide +kernel
theorem dX5_addToken_17 : decode cX5_addToken 17 = .ok (.aload_n 0, 1) := by decide +kernel
theorem dX5_addToken_18 : decode cX5_addToken 18 = .ok (.getfield 29, 3) := by decide +kernel
theorem dX5_addToken_21 : decode cX5_addToken 21 = .ok (.iload_n 1, 1) := by decide +kernel
theorem dX5_addToken_22 : decode cX5_addToken 22 = .ok (.iastore, 1) := by decide +kernel
theorem dX5_addToken_23 : decode cX5_addToken 23 = .ok (.aload_n 0, 1) := by decide +kernel
theorem dX5_addToken_24 : decode cX5_addToken 24 = .ok (.getfield 23, 3) := by decide +kernel
theorem dX5_addToken_27 : decode cX5_addToken 27 = .ok (.aload_n 0, 1) := by decide +kernel
theorem dX5_addToken_28 : decode cX5_addToken 28 = .ok (.getfield 29, 3) := by decide +kernel
theorem dX5_addToken_31 : decode cX5_addToken 31 = .ok (.iload_n 2, 1) := by decide +kernel
theorem dX5_addToken_32 : decode cX5_addToken 32 = .ok (.iastore, 1) := by decide +kernel
theorem dX5_addToken_33 : decode cX5_addToken 33 = .ok (.aload_n 0, 1) := by decide +kernel
theorem dX5_addToken_34 : decode cX5_addToken 34 = .ok (.getfield 26, 3) := by decide +kernel
theorem dX5_addToken_37 : decode cX5_addToken 37 = .ok (.aload_n 0, 1) := by decide +kernel
theorem dX5_addToken_38 : decode cX5_addToken 38 = .ok (.getfield 29, 3) := by decide +kernel
theorem dX5_addToken_41 : decode cX5_addToken 41 = .ok (.iload_n 3, 1) := by decide +kernel
theorem dX5_addToken_42 : decode cX5_addToken 42 = .ok (.iastore, 1) := by decide +kernel
theorem dX5_addToken_43 : decode cX5_addToken 43 = .ok (.aload_n 0, 1) := by decide +kernel
theorem dX5_addToken_44 : decode cX5_addToken 44 = .ok (.dup, 1) := by decide +kernel
theorem dX5_addToken_45 : decode cX5_addToken 45 = .ok (.getfield 29, 3) := by decide +kernel
theorem dX5_addToken_48 : decode cX5_addToken 48 = .ok (.iconst 1, 1) := by decide +kernel
theorem dX5_addToken_49 : decode cX5_addToken 49 = .ok (.iadd, 1) := by decide +kernel
theorem dX5_addToken_50 : decode cX5_addToken 50 = .ok (.putfield 29, 3) := by decide +kernel
theorem dX5_addToken_53 : decode cX5_addToken 53 = .ok (.return_, 1) := by decide +kernel
set_option maxHeartbeats 4000000 in
set_option maxRecDepth 100000 in
theorem c_X5_addToken (r b e : Nat) (k : Int32) (ts : List Tok) {n : Nat} {kd : mK} {I : mI} {J : mJ} {P : mP} (k0 : kd r = some (0, 5)) (k2 : kd (r + 2) = some (1, 501)) (k3 : kd (r + 3) = some (1, 501)) (k4 : kd (r + 4) = some (1, 501)) (x2 : P r 2 = some (r + 2)) (x3 : P r 3 = some (r + 3)) (x4 : P r 4 = some (r + 4)) (hl : ts.length < 501) : Ct yX5_addToken cX5_addToken 4 none 1 0 0 [.ref r, .int k, .int (nI b), .int (nI e)] n kd (tI r ts I) J P (am_is none n kd (tI r (ts ++ [(k, b, e)]) I) J P) := by
  refine ct_of 0 (by decide +kernel) (Nat.le_of_ble_eq_true rfl) rfl ?_
  refine r_aload_n dX5_addToken_0 rfl ?_
  refine r_getI dX5_addToken_1 fl_X5_29 rfl k0 ?_
  rw [tI_5]
  refine r_aload_n dX5_addToken_4 rfl ?_
  refine r_getR dX5_addToken_5 fl_X5_19 rfl k0 x2 ?_
  refine r_alen dX5_addToken_8 k2 (by decide) ?_
  refine r_icmp_lt (tgt := 13) dX5_addToken_9 (by decide) (fun _ => ?_) (fun hz => absurd (show _ from (by rw [nI_ltI (by omega) (by omega)]; omega)) hz)
  refine r_aload_n dX5_addToken_13 rfl ?_
  refine r_getR dX5_addToken_14 fl_X5_19 rfl k0 x2 ?_
  refine r_aload_n dX5_addToken_17 rfl ?_
  refine r_getI dX5_addToken_18 fl_X5_29 rfl k0 ?_
  rw [tI_5]
  refine r_iload_n dX5_addToken_21 rfl ?_
  refine r_iast dX5_addToken_22 k2 (nI_in8 501 hl (by decide)) (nI_clamp (by omega)) ?_
  refine r_aload_n dX5_addToken_23 rfl ?_
  refine r_getR dX5_addToken_24 fl_X5_23 rfl k0 x3 ?_
  refine r_aload_n dX5_addToken_27 rfl ?_
  refine r_getI dX5_addToken_28 fl_X5_29 rfl k0 ?_
  rw [am_up_n _ _ (show r ≠ r + 2 by omega), tI_5]
  refine r_iload_n dX5_addToken_31 rfl ?_
  refine r_iast dX5_addToken_32 k3 (nI_in8 501 hl (by decide)) (nI_clamp (by omega)) ?_
  refine r_aload_n dX5_addToken_33 rfl ?_
  refine r_getR dX5_addToken_34 fl_X5_26 rfl k0 x4 ?_
  refine r_aload_n dX5_addToken_37 rfl ?_
  refine r_getI dX5_addToken_38 fl_X5_29 rfl k0 ?_
  rw [am_up_n _ _ (show r ≠ r + 3 by omega), am_up_n _ _ (show r ≠ r + 2 by omega), tI_5]
  refine r_iload_n dX5_addToken_41 rfl ?_
  refine r_iast dX5_addToken_42 k4 (nI_in8 501 hl (by decide)) (nI_clamp (by omega)) ?_
  refine r_aload_n dX5_addToken_43 rfl ?_
  refine r_dup dX5_addToken_44 rfl ?_
  refine r_getI dX5_addToken_45 fl_X5_29 rfl k0 ?_
  rw [am_up_n _ _ (show r ≠ r + 4 by omega), am_up_n _ _ (show r ≠ r + 3 by omega), am_up_n _ _ (show r ≠ r + 2 by omega), tI_5]
  refine r_iconst (v := nI 1) dX5_addToken_48 (by decide) ?_
  refine r_iadd dX5_addToken_49 ?_
  rw [nI_add]
  refine r_putI dX5_addToken_50 fl_X5_29 rfl rfl k0 ?_
  refine r_vret rfl dX5_addToken_53 ?_
  rw [am_up_n _ _ (show r ≠ r + 4 by omega), am_up_n _ _ (show r ≠ r + 3 by omega), am_up_n _ _ (show r ≠ r + 2 by omega), am_up_n _ _ (show r + 4 ≠ r + 3 by omega), am_up_n _ _ (show r + 4 ≠ r + 2 by omega), am_up_n _ _ (show r + 3 ≠ r + 2 by omega), tI_put]
  exact am_is.mk

theorem dX5_endOfLetters_0 : decode cX5_endOfLetters 0 = .ok (.iload_n 1, 1) := by decide +kernel
theorem dX5_endOfLetters_1 : decode cX5_endOfLetters 1 = .ok (.istore_n 2, 1) := by decide +kernel
theorem dX5_endOfLetters_2 : decode cX5_endOfLetters 2 = .ok (.iload_n 1, 1) := by decide +kernel
theorem dX5_endOfLetters_3 : decode cX5_endOfLetters 3 = .ok (.istore_n 3, 1) := by decide +kernel
theorem dX5_endOfLetters_4 : decode cX5_endOfLetters 4 = .ok (.iload_n 3, 1) := by decide +kernel
theorem dX5_endOfLetters_5 : decode cX5_endOfLetters 5 = .ok (.aload_n 0, 1) := by decide +kernel
theorem dX5_endOfLetters_6 : decode cX5_endOfLetters 6 = .ok (.getfield 15, 3) := by decide +kernel
theorem dX5_endOfLetters_9 : decode cX5_endOfLetters 9 = .ok (.if_icmp .ge 25, 3) := by decide +kernel
theorem dX5_endOfLetters_12 : decode cX5_endOfLetters 12 = .ok (.aload_n 0, 1) := by decide +kernel
theorem dX5_endOfLetters_13 : decode cX5_endOfLetters 13 = .ok (.getfield 9, 3) := by decide +kernel
theorem dX5_endOfLetters_16 : decode cX5_endOfLetters 16 = .ok (.iload_n 3, 1) := by decide +kernel
theorem dX5_endOfLetters_17 : decode cX5_endOfLetters 17 = .ok (.baload, 1) := by decide +kernel
theorem dX5_endOfLetters_18 : decode cX5_endOfLetters 18 = .ok (.invokestatic 89, 3) := by decide +kernel
theorem dX5_endOfLetters_21 : decode cX5_endOfLetters 21 = .ok (.ifCond .eq 13, 3) := by decide +kernel
theorem dX5_endOfLetters_24 : decode cX5_endOfLetters 24 = .ok (.iload_n 3, 1) := by decide +kernel
theorem dX5_endOfLetters_25 : decode cX5_endOfLetters 25 = .ok (.iconst 1, 1) := by decide +kernel
theorem dX5_endOfLetters_26 : decode cX5_endOfLetters 26 = .ok (.iadd, 1) := by decide +kernel
theorem dX5_endOfLetters_27 : decode cX5_endOfLetters 27 = .ok (.istore_n 2, 1) := by decide +kernel
theorem dX5_endOfLetters_28 : decode cX5_endOfLetters 28 = .ok (.iinc 3 1, 3) := by decide +kernel
theorem dX5_endOfLetters_31 : decode cX5_endOfLetters 31 = .ok (.goto (-27), 3) := by decide +kernel
theorem dX5_endOfLetters_34 : decode cX5_endOfLetters 34 = .ok (.iload_n 2, 1) := by decide +kernel
theorem dX5_endOfLetters_35 : decode cX5_endOfLetters 35 = .ok (.ireturn, 1) := by decide +kernel

set_option maxHeartbeats 4000000 in
set_option maxRecDepth 100000 in
theorem w_X5_endOfLetters (r x XL len b : Nat) {n : Nat} {kd : mK} {I : mI} {J : mJ} {P : mP} (k0 : kd r = some (0, 5)) (x0 : P r 0 = some x) (kx : kd x = some (2, XL)) (i1 : I r 1 = nI len) (t3 : len ≤ 500) (t4 : len ≤ XL) (xl : XL < 2 ^ 30) : ∀ (k i : Nat), i + k = len → Ru yX5_endOfLetters.cls cX5_endOfLetters 4 (some .int) yX5_endOfLetters.name 2 (am_is (some (.int (nI (runE isL (I x) k i)))) n kd I J P) 0 0 4 [some (.ref r), some (.int (nI b)), some (.int (nI i)), some (.int (nI i))] [] n kd I J P := by
  intro k
  induction k with
  | zero =>
    intro i hi
    unfold runE
    refine r_iload_n dX5_endOfLetters_4 rfl ?_
    refine r_aload_n dX5_endOfLetters_5 rfl ?_
    refine r_getI dX5_endOfLetters_6 fl_X5_15 rfl k0 ?_
    rw [i1]
    refine r_icmp_ge (tgt := 34) dX5_endOfLetters_9 (by decide) (fun _ => ?_) (fun hz => absurd (show _ from (by rw [nI_leI (by omega) (by omega)]; omega)) hz)
    refine r_iload_n dX5_endOfLetters_34 rfl ?_
    refine r_iret rfl dX5_endOfLetters_35 ?_
    exact am_is.mk
  | succ k ih =>
    intro i hi
    unfold runE
    by_cases c : isL (I x i) = true
    · rw [if_pos c]
      refine r_iload_n dX5_endOfLetters_4 rfl ?_
      refine r_aload_n dX5_endOfLetters_5 rfl ?_
      refine r_getI dX5_endOfLetters_6 fl_X5_15 rfl k0 ?_
      rw [i1]
      refine r_icmp_ge (tgt := 34) dX5_endOfLetters_9 (by decide) (fun hz => absurd hz (show ¬ _ from (by rw [nI_leI (by omega) (by omega)]; omega))) (fun _ => ?_)
      refine r_aload_n dX5_endOfLetters_12 rfl ?_
      refine r_getR dX5_endOfLetters_13 fl_X5_9 rfl k0 x0 ?_
      refine r_iload_n dX5_endOfLetters_16 rfl ?_
      refine r_bald dX5_endOfLetters_17 kx (nI_in8 XL (by omega) (by omega)) (nI_clamp (by omega)) ?_
      refine r_statE (c_X5_isLetter (I x i)) lk_X5_89 mc_X5_isLetter dX5_endOfLetters_18 (by decide) rfl rfl (Nat.le_of_ble_eq_true rfl) ?_
      refine r_if_eq (tgt := 34) dX5_endOfLetters_21 (by decide) (fun hz => absurd hz (show ¬ _ from by rw [c]; decide)) (fun _ => ?_)
      refine r_iload_n dX5_endOfLetters_24 rfl ?_
      refine r_iconst (v := nI 1) dX5_endOfLetters_25 (by decide) ?_
      refine r_iadd dX5_endOfLetters_26 ?_
      rw [nI_add]
      refine r_istore_n dX5_endOfLetters_27 (by decide) ?_
      refine r_iinc (v := nI (i + 1)) dX5_endOfLetters_28 rfl (nI_inc i) ?_
      refine r_goto (tgt := 4) dX5_endOfLetters_31 (by decide) ?_
      exact ih (i + 1) (by omega)
    · rw [if_neg c]
      have c : isL (I x i) = false := by simpa using c
      refine r_iload_n dX5_endOfLetters_4 rfl ?_
      refine r_aload_n dX5_endOfLetters_5 rfl ?_
      refine r_getI dX5_endOfLetters_6 fl_X5_15 rfl k0 ?_
      rw [i1]
      refine r_icmp_ge (tgt := 34) dX5_endOfLetters_9 (by decide) (fun hz => absurd hz (show ¬ _ from (by rw [nI_leI (by omega) (by omega)]; omega))) (fun _ => ?_)
      refine r_aload_n dX5_endOfLetters_12 rfl ?_
      refine r_getR dX5_endOfLetters_13 fl_X5_9 rfl k0 x0 ?_
      refine r_iload_n dX5_endOfLetters_16 rfl ?_
      refine r_bald dX5_endOfLetters_17 kx (nI_in8 XL (by omega) (by omega)) (nI_clamp (by omega)) ?_
      refine r_statE (c_X5_isLetter (I x i)) lk_X5_89 mc_X5_isLetter dX5_endOfLetters_18 (by decide) rfl rfl (Nat.le_of_ble_eq_true rfl) ?_
      refine r_if_eq (tgt := 34) dX5_endOfLetters_21 (by decide) (fun _ => ?_) (fun hz => absurd (show _ from by rw [c]; rfl) hz)
      refine r_iload_n dX5_endOfLetters_34 rfl ?_
      refine r_iret rfl dX5_endOfLetters_35 ?_
      exact am_is.mk

set_option maxHeartbeats 4000000 in
set_option maxRecDepth 100000 in
theorem c_X5_endOfLetters (r x XL len b : Nat) {n : Nat} {kd : mK} {I : mI} {J : mJ} {P : mP} (k0 : kd r = some (0, 5)) (x0 : P r 0 = some x) (kx : kd x = some (2, XL)) (i1 : I r 1 = nI len) (t3 : len ≤ 500) (t4 : len ≤ XL) (xl : XL < 2 ^ 30) (hb : b ≤ len) : Ct yX5_endOfLetters cX5_endOfLetters 4 (some .int) 2 0 0 [.ref r, .int (nI b)] n kd I J P (am_is (some (.int (nI (runE isL (I x) (len - b) b)))) n kd I J P) := by
  refine ct_of 2 (by decide +kernel) (Nat.le_of_ble_eq_true rfl) rfl ?_
  refine r_iload_n dX5_endOfLetters_0 rfl ?_
  refine r_istore_n dX5_endOfLetters_1 (by decide) ?_
  refine r_iload_n dX5_endOfLetters_2 rfl ?_
  refine r_istore_n dX5_endOfLetters_3 (by decide) ?_
  exact w_X5_endOfLetters r x XL len b k0 x0 kx i1 t3 t4 xl (len - b) b (by omega)

theorem dX5_endOfDigits_0 : decode cX5_endOfDigits 0 = .ok (.iload_n 1, 1) := by decide +kernel
theorem dX5_endOfDigits_1 : decode cX5_endOfDigits 1 = .ok (.istore_n 2, 1) := by decide +kernel
theorem dX5_endOfDigits_2 : decode cX5_endOfDigits 2 = .ok (.iload_n 1, 1) := by decide +kernel
theorem dX5_endOfDigits_3 : decode cX5_endOfDigits 3 = .ok (.istore_n 3, 1) := by decide +kernel
theorem dX5_endOfDigits_4 : decode cX5_endOfDigits 4 = .ok (.iload_n 3, 1) := by decide +kernel
theorem dX5_endOfDigits_5 : decode cX5_endOfDigits 5 = .ok (.aload_n 0, 1) := by decide +kernel
theorem dX5_endOfDigits_6 : decode cX5_endOfDigits 6 = .ok (.getfield 15, 3) := by decide +kernel
theorem dX5_endOfDigits_9 : decode cX5_endOfDigits 9 = .ok (.if_icmp .ge 25, 3) := by decide +kernel
theorem dX5_endOfDigits_12 : decode cX5_endOfDigits 12 = .ok (.aload_n 0, 1) := by decide +kernel
theorem dX5_endOfDigits_13 : decode cX5_endOfDigits 13 = .ok (.getfield 9, 3) := by decide +kernel
theorem dX5_endOfDigits_16 : decode cX5_endOfDigits 16 = .ok (.iload_n 3, 1) := by decide +kernel
theorem dX5_endOfDigits_17 : decode cX5_endOfDigits 17 = .ok (.baload, 1) := by decide +kernel
theorem dX5_endOfDigits_18 : decode cX5_endOfDigits 18 = .ok (.invokestatic 104, 3) := by decide +kernel
theorem dX5_endOfDigits_21 : decode cX5_endOfDigits 21 = .ok (.ifCond .eq 13, 3) := by decide +kernel
theorem dX5_endOfDigits_24 : decode cX5_endOfDigits 24 = .ok (.iload_n 3, 1) := by decide +kernel
theorem dX5_endOfDigits_25 : decode cX5_endOfDigits 25 = .ok (.iconst 1, 1) := by decide +kernel
theorem dX5_endOfDigits_26 : decode cX5_endOfDigits 26 = .ok (.iadd, 1) := by decide +kernel
theorem dX5_endOfDigits_27 : decode cX5_endOfDigits 27 = .ok (.istore_n 2, 1) := by decide +kernel
theorem dX5_endOfDigits_28 : decode cX5_endOfDigits 28 = .ok (.iinc 3 1, 3) := by decide +kernel
theorem dX5_endOfDigits_31 : decode cX5_endOfDigits 31 = .ok (.goto (-27), 3) := by decide +kernel
theorem dX5_endOfDigits_34 : decode cX5_endOfDigits 34 = .ok (.iload_n 2, 1) := by decide +kernel
theorem dX5_endOfDigits_35 : decode cX5_endOfDigits 35 = .ok (.ireturn, 1) := by decide +kernel

set_option maxHeartbeats 4000000 in
set_option maxRecDepth 100000 in
theorem w_X5_endOfDigits (r x XL len b : Nat) {n : Nat} {kd : mK} {I : mI} {J : mJ} {P : mP} (k0 : kd r = some (0, 5)) (x0 : P r 0 = some x) (kx : kd x = some (2, XL)) (i1 : I r 1 = nI len) (t3 : len ≤ 500) (t4 : len ≤ XL) (xl : XL < 2 ^ 30) : ∀ (k i : Nat), i + k = len → Ru yX5_endOfDigits.cls cX5_endOfDigits 4 (some .int) yX5_endOfDigits.name 2 (am_is (some (.int (nI (runE isD (I x) k i)))) n kd I J P) 0 0 4 [some (.ref r), some (.int (nI b)), some (.int (nI i)), some (.int (nI i))] [] n kd I J P := by
  intro k
  induction k with
  | zero =>
    intro i hi
    unfold runE
    refine r_iload_n dX5_endOfDigits_4 rfl ?_
    refine r_aload_n dX5_endOfDigits_5 rfl ?_
    refine r_getI dX5_endOfDigits_6 fl_X5_15 rfl k0 ?_
    rw [i1]
    refine r_icmp_ge (tgt := 34) dX5_endOfDigits_9 (by decide) (fun _ => ?_) (fun hz => absurd (show _ from (by rw [nI_leI (by omega) (by omega)]; omega)) hz)
    refine r_iload_n dX5_endOfDigits_34 rfl ?_
    refine r_iret rfl dX5_endOfDigits_35 ?_
    exact am_is.mk
  | succ k ih =>
    intro i hi
    unfold runE
    by_cases c : isD (I x i) = true
    · rw [if_pos c]
      refine r_iload_n dX5_endOfDigits_4 rfl ?_
      refine r_aload_n dX5_endOfDigits_5 rfl ?_
      refine r_getI dX5_endOfDigits_6 fl_X5_15 rfl k0 ?_
      rw [i1]
      refine r_icmp_ge (tgt := 34) dX5_endOfDigits_9 (by decide) (fun hz => absurd hz (show ¬ _ from (by rw [nI_leI (by omega) (by omega)]; omega))) (fun _ => ?_)
      refine r_aload_n dX5_endOfDigits_12 rfl ?_
      refine r_getR dX5_endOfDigits_13 fl_X5_9 rfl k0 x0 ?_
      refine r_iload_n dX5_endOfDigits_16 rfl ?_
      refine r_bald dX5_endOfDigits_17 kx (nI_in8 XL (by omega) (by omega)) (nI_clamp (by omega)) ?_
      refine r_statE (c_X5_isDigit (I x i)) lk_X5_104 mc_X5_isDigit dX5_endOfDigits_18 (by decide) rfl rfl (Nat.le_of_ble_eq_true rfl) ?_
      refine r_if_eq (tgt := 34) dX5_endOfDigits_21 (by decide) (fun hz => absurd hz (show ¬ _ from by rw [c]; decide)) (fun _ => ?_)
      refine r_iload_n dX5_endOfDigits_24 rfl ?_
      refine r_iconst (v := nI 1) dX5_endOfDigits_25 (by decide) ?_
      refine r_iadd dX5_endOfDigits_26 ?_
      rw [nI_add]
      refine r_istore_n dX5_endOfDigits_27 (by decide) ?_
      refine r_iinc (v := nI (i + 1)) dX5_endOfDigits_28 rfl (nI_inc i) ?_
      refine r_goto (tgt := 4) dX5_endOfDigits_31 (by decide) ?_
      exact ih (i + 1) (by omega)
    · rw [if_neg c]
      have c : isD (I x i) = false := by simpa using c
      refine r_iload_n dX5_endOfDigits_4 rfl ?_
      refine r_aload_n dX5_endOfDigits_5 rfl ?_
      refine r_getI dX5_endOfDigits_6 fl_X5_15 rfl k0 ?_
      rw [i1]
      refine r_icmp_ge (tgt := 34) dX5_endOfDigits_9 (by decide) (fun hz => absurd hz (show ¬ _ from (by rw [nI_leI (by omega) (by omega)]; omega))) (fun _ => ?_)
      refine r_aload_n dX5_endOfDigits_12 rfl ?_
      refine r_getR dX5_endOfDigits_13 fl_X5_9 rfl k0 x0 ?_
      refine r_iload_n dX5_endOfDigits_16 rfl ?_
      refine r_bald dX5_endOfDigits_17 kx (nI_in8 XL (by omega) (by omega)) (nI_clamp (by omega)) ?_
      refine r_statE (c_X5_isDigit (I x i)) lk_X5_104 mc_X5_isDigit dX5_endOfDigits_18 (by decide) rfl rfl (Nat.le_of_ble_eq_true rfl) ?_
      refine r_if_eq (tgt := 34) dX5_endOfDigits_21 (by decide) (fun _ => ?_) (fun hz => absurd (show _ from by rw [c]; rfl) hz)
      refine r_iload_n dX5_endOfDigits_34 rfl ?_
      refine r_iret rfl dX5_endOfDigits_35 ?_
      exact am_is.mk

set_option maxHeartbeats 4000000 in
set_option maxRecDepth 100000 in
theorem c_X5_endOfDigits (r x XL len b : Nat) {n : Nat} {kd : mK} {I : mI} {J : mJ} {P : mP} (k0 : kd r = some (0, 5)) (x0 : P r 0 = some x) (kx : kd x = some (2, XL)) (i1 : I r 1 = nI len) (t3 : len ≤ 500) (t4 : len ≤ XL) (xl : XL < 2 ^ 30) (hb : b ≤ len) : Ct yX5_endOfDigits cX5_endOfDigits 4 (some .int) 2 0 0 [.ref r, .int (nI b)] n kd I J P (am_is (some (.int (nI (runE isD (I x) (len - b) b)))) n kd I J P) := by
  refine ct_of 2 (by decide +kernel) (Nat.le_of_ble_eq_true rfl) rfl ?_
  refine r_iload_n dX5_endOfDigits_0 rfl ?_
  refine r_istore_n dX5_endOfDigits_1 (by decide) ?_
  refine r_iload_n dX5_endOfDigits_2 rfl ?_
  refine r_istore_n dX5_endOfDigits_3 (by decide) ?_
  exact w_X5_endOfDigits r x XL len b k0 x0 kx i1 t3 t4 xl (len - b) b (by omega)

theorem dX5_spells_0 : decode cX5_spells 0 = .ok (.iload_n 3, 1) := by decide +kernel
theorem dX5_spells_1 : decode cX5_spells 1 = .ok (.iload_n 2, 1) := by decide +kernel
theorem dX5_spells_2 : decode cX5_spells 2 = .ok (.isub, 1) := by decide +kernel
theorem dX5_spells_3 : decode cX5_spells 3 = .ok (.aload_n 1, 1) := by decide +kernel
theorem dX5_spells_4 : decode cX5_spells 4 = .ok (.invokevirtual 143, 3) := by decide +kernel
theorem dX5_spells_7 : decode cX5_spells 7 = .ok (.if_icmp .eq 5, 3) := by decide +kernel
theorem dX5_spells_10 : decode cX5_spells 10 = .ok (.iconst 0, 1) := by decide +kernel
theorem dX5_spells_11 : decode cX5_spells 11 = .ok (.ireturn, 1) := by decide +kernel
theorem dX5_spells_12 : decode cX5_spells 12 = .ok (.iconst 0, 1) := by decide +kernel
theorem dX5_spells_13 : decode cX5_spells 13 = .ok (.istore 4, 2) := by decide +kernel
theorem dX5_spells_15 : decode cX5_spells 15 = .ok (.iload 4, 2) := by decide +kernel
theorem dX5_spells_17 : decode cX5_spells 17 = .ok (.aload_n 1, 1) := by decide +kernel
theorem dX5_spells_18 : decode cX5_spells 18 = .ok (.invokevirtual 143, 3) := by decide +kernel
theorem dX5_spells_21 : decode cX5_spells 21 = .ok (.if_icmp .ge 29, 3) := by decide +kernel
theorem dX5_spells_24 : decode cX5_spells 24 = .ok (.aload_n 0, 1) := by decide +kernel
theorem dX5_spells_25 : decode cX5_spells 25 = .ok (.getfield 9, 3) := by decide +kernel
theorem dX5_spells_28 : decode cX5_spells 28 = .ok (.iload_n 2, 1) := by decide +kernel
theorem dX5_spells_29 : decode cX5_spells 29 = .ok (.iload 4, 2) := by decide +kernel
theorem dX5_spells_31 : decode cX5_spells 31 = .ok (.iadd, 1) := by decide +kernel
theorem dX5_spells_32 : decode cX5_spells 32 = .ok (.baload, 1) := by decide +kernel
theorem dX5_spells_33 : decode cX5_spells 33 = .ok (.aload_n 1, 1) := by decide +kernel
theorem dX5_spells_34 : decode cX5_spells 34 = .ok (.iload 4, 2) := by decide +kernel
theorem dX5_spells_36 : decode cX5_spells 36 = .ok (.invokevirtual 148, 3) := by decide +kernel
theorem dX5_spells_39 : decode cX5_spells 39 = .ok (.if_icmp .eq 5, 3) := by decide +kernel
theorem dX5_spells_42 : decode cX5_spells 42 = .ok (.iconst 0, 1) := by decide +kernel
theorem dX5_spells_43 : decode cX5_spells 43 = .ok (.ireturn, 1) := by decide +kernel
theorem dX5_spells_44 : decode cX5_spells 44 = .ok (.iinc 4 1, 3) := by decide +kernel
theorem dX5_spells_47 : decode cX5_spells 47 = .ok (.goto (-32), 3) := by decide +kernel
theorem dX5_spells_50 : decode cX5_spells 50 = .ok (.iconst 1, 1) := by decide +kernel
theorem dX5_spells_51 : decode cX5_spells 51 = .ok (.ireturn, 1) := by decide +kernel

set_option maxHeartbeats 4000000 in
set_option maxRecDepth 100000 in
theorem w_X5_spells (r x XL w b e : Nat) {n : Nat} {kd : mK} {I : mI} {J : mJ} {P : mP} (k0 : kd r = some (0, 5)) (x0 : P r 0 = some x) (kx : kd x = some (2, XL)) (xl : XL < 2 ^ 30) (hw : w < 21) (heb : b ≤ e) (heX : e ≤ XL) (hs : e - b = sN w) : ∀ (k j : Nat), j + k = sN w → Ru yX5_spells.cls cX5_spells 5 (some .boolean) yX5_spells.name 5 (am_is (some (.int (bz (splF (I x) w b k j)))) n kd I J P) 0 0 15 [some (.ref r), some (.ref (1000000 + w)), some (.int (nI b)), some (.int (nI e)), some (.int (nI j))] [] n kd I J P := by
  have h18 := sN_small w hw
  intro k
  induction k with
  | zero =>
    intro j hj
    unfold splF
    refine r_iload dX5_spells_15 rfl ?_
    refine r_aload_n dX5_spells_17 rfl ?_
    refine r_virtK (c_J0_length_8abf5 w hw) lk_X5_143 mc_J0_length_8abf5 dX5_spells_18 hw (by decide) rfl rfl (Nat.le_of_ble_eq_true rfl) ?_
    refine r_icmp_ge (tgt := 50) dX5_spells_21 (by decide) (fun _ => ?_) (fun hz => absurd (show _ from (by rw [nI_leI (by omega) (by omega)]; omega)) hz)
    refine r_iconst (v := nI 1) dX5_spells_50 (by decide) ?_
    refine r_zret rfl dX5_spells_51 (by first | exact Or.inl rfl | exact Or.inr rfl | assumption) ?_
    exact am_is.mk
  | succ k ih =>
    intro j hj
    unfold splF
    by_cases c : I x (b + j) = sC w j
    · rw [show (decide (I x (b + j) = sC w j) && splF (I x) w b k (j + 1)) = splF (I x) w b k (j + 1) by simp [c]]
      refine r_iload dX5_spells_15 rfl ?_
      refine r_aload_n dX5_spells_17 rfl ?_
      refine r_virtK (c_J0_length_8abf5 w hw) lk_X5_143 mc_J0_length_8abf5 dX5_spells_18 hw (by decide) rfl rfl (Nat.le_of_ble_eq_true rfl) ?_
      refine r_icmp_ge (tgt := 50) dX5_spells_21 (by decide) (fun hz => absurd hz (show ¬ _ from (by rw [nI_leI (by omega) (by omega)]; omega))) (fun _ => ?_)
      refine r_aload_n dX5_spells_24 rfl ?_
      refine r_getR dX5_spells_25 fl_X5_9 rfl k0 x0 ?_
      refine r_iload_n dX5_spells_28 rfl ?_
      refine r_iload dX5_spells_29 rfl ?_
      refine r_iadd dX5_spells_31 ?_
      rw [nI_add]
      refine r_bald dX5_spells_32 kx (nI_in8 XL (by omega) (by omega)) (nI_clamp (by omega)) ?_
      refine r_aload_n dX5_spells_33 rfl ?_
      refine r_iload dX5_spells_34 rfl ?_
      refine r_virtK (c_J0_charAt_5068e w j hw (by omega)) lk_X5_148 mc_J0_charAt_5068e dX5_spells_36 hw (by decide) rfl rfl (Nat.le_of_ble_eq_true rfl) ?_
      refine r_icmp_eq (tgt := 44) dX5_spells_39 (by decide) (fun _ => ?_) (fun hz => absurd (show _ from c) hz)
      refine r_iinc (v := nI (j + 1)) dX5_spells_44 rfl (nI_inc j) ?_
      refine r_goto (tgt := 15) dX5_spells_47 (by decide) ?_
      exact ih (j + 1) (by omega)
    · rw [show (decide (I x (b + j) = sC w j) && splF (I x) w b k (j + 1)) = false by simp [c]]
      refine r_iload dX5_spells_15 rfl ?_
      refine r_aload_n dX5_spells_17 rfl ?_
      refine r_virtK (c_J0_length_8abf5 w hw) lk_X5_143 mc_J0_length_8abf5 dX5_spells_18 hw (by decide) rfl rfl (Nat.le_of_ble_eq_true rfl) ?_
      refine r_icmp_ge (tgt := 50) dX5_spells_21 (by decide) (fun hz => absurd hz (show ¬ _ from (by rw [nI_leI (by omega) (by omega)]; omega))) (fun _ => ?_)
      refine r_aload_n dX5_spells_24 rfl ?_
      refine r_getR dX5_spells_25 fl_X5_9 rfl k0 x0 ?_
      refine r_iload_n dX5_spells_28 rfl ?_
      refine r_iload dX5_spells_29 rfl ?_
      refine r_iadd dX5_spells_31 ?_
      rw [nI_add]
      refine r_bald dX5_spells_32 kx (nI_in8 XL (by omega) (by omega)) (nI_clamp (by omega)) ?_
      refine r_aload_n dX5_spells_33 rfl ?_
      refine r_iload dX5_spells_34 rfl ?_
      refine r_virtK (c_J0_charAt_5068e w j hw (by omega)) lk_X5_148 mc_J0_charAt_5068e dX5_spells_36 hw (by decide) rfl rfl (Nat.le_of_ble_eq_true rfl) ?_
      refine r_icmp_eq (tgt := 44) dX5_spells_39 (by decide) (fun hz => absurd hz (show ¬ _ from c)) (fun _ => ?_)
      refine r_iconst (v := nI 0) dX5_spells_42 (by decide) ?_
      refine r_zret rfl dX5_spells_43 (by first | exact Or.inl rfl | exact Or.inr rfl | assumption) ?_
      exact am_is.mk

set_option maxHeartbeats 4000000 in
set_option maxRecDepth 100000 in
theorem c_X5_spells (r x XL w b e : Nat) {n : Nat} {kd : mK} {I : mI} {J : mJ} {P : mP} (k0 : kd r = some (0, 5)) (x0 : P r 0 = some x) (kx : kd x = some (2, XL)) (xl : XL < 2 ^ 30) (hw : w < 21) (heb : b ≤ e) (heX : e ≤ XL) : Ct yX5_spells cX5_spells 5 (some .boolean) 5 0 0 [.ref r, .ref (1000000 + w), .int (nI b), .int (nI e)] n kd I J P (am_is (some (.int (bz (spl (I x) w b e)))) n kd I J P) := by
  have h18 := sN_small w hw
  unfold spl
  refine ct_of 1 (by decide +kernel) (Nat.le_of_ble_eq_true rfl) rfl ?_
  by_cases c : e - b = sN w
  · rw [show (decide (e - b = sN w) && splF (I x) w b (sN w) 0) = splF (I x) w b (sN w) 0 by simp [c]]
    refine r_iload_n dX5_spells_0 rfl ?_
    refine r_iload_n dX5_spells_1 rfl ?_
    refine r_isub dX5_spells_2 ?_
    rw [pk_sub (by omega)]
    refine r_aload_n dX5_spells_3 rfl ?_
    refine r_virtK (c_J0_length_8abf5 w hw) lk_X5_143 mc_J0_length_8abf5 dX5_spells_4 hw (by decide) rfl rfl (Nat.le_of_ble_eq_true rfl) ?_
    refine r_icmp_eq (tgt := 12) dX5_spells_7 (by decide) (fun _ => ?_) (fun hz => absurd (show _ from by rw [c]) hz)
    refine r_iconst (v := nI 0) dX5_spells_12 (by decide) ?_
    refine r_istore dX5_spells_13 (by decide) ?_
    exact w_X5_spells r x XL w b e k0 x0 kx xl hw heb heX c (sN w) 0 (by omega)
  · rw [show (decide (e - b = sN w) && splF (I x) w b (sN w) 0) = false by simp [c]]
    refine r_iload_n dX5_spells_0 rfl ?_
    refine r_iload_n dX5_spells_1 rfl ?_
    refine r_isub dX5_spells_2 ?_
    rw [pk_sub (by omega)]
    refine r_aload_n dX5_spells_3 rfl ?_
    refine r_virtK (c_J0_length_8abf5 w hw) lk_X5_143 mc_J0_length_8abf5 dX5_spells_4 hw (by decide) rfl rfl (Nat.le_of_ble_eq_true rfl) ?_
    refine r_icmp_eq (tgt := 12) dX5_spells_7 (by decide) (fun hz => absurd hz (show ¬ _ from by rw [nI_eq (by omega) (by omega)]; exact c)) (fun _ => ?_)
    refine r_iconst (v := nI 0) dX5_spells_10 (by decide) ?_
    refine r_zret rfl dX5_spells_11 (by first | exact Or.inl rfl | exact Or.inr rfl | assumption) ?_
    exact am_is.mk

theorem dX5_kindOfWord_0 : decode cX5_kindOfWord 0 = .ok (.aload_n 0, 1) := by decide +kernel
theorem dX5_kindOfWord_1 : decode cX5_kindOfWord 1 = .ok (.ldc 113, 2) := by decide +kernel
theorem dX5_kindOfWord_3 : decode cX5_kindOfWord 3 = .ok (.iload_n 1, 1) := by decide +kernel
theorem dX5_kindOfWord_4 : decode cX5_kindOfWord 4 = .ok (.iload_n 2, 1) := by decide +kernel
theorem dX5_kindOfWord_5 : decode cX5_kindOfWord 5 = .ok (.invokevirtual 115, 3) := by decide +kernel
theorem dX5_kindOfWord_8 : decode cX5_kindOfWord 8 = .ok (.ifCond .eq 7, 3) := by decide +kernel
theorem dX5_kindOfWord_11 : decode cX5_kindOfWord 11 = .ok (.sipush 129, 3) := by decide +kernel
theorem dX5_kindOfWord_14 : decode cX5_kindOfWord 14 = .ok (.ireturn, 1) := by decide +kernel
theorem dX5_kindOfWord_15 : decode cX5_kindOfWord 15 = .ok (.aload_n 0, 1) := by decide +kernel
theorem dX5_kindOfWord_16 : decode cX5_kindOfWord 16 = .ok (.ldc 119, 2) := by decide +kernel
theorem dX5_kindOfWord_18 : decode cX5_kindOfWord 18 = .ok (.iload_n 1, 1) := by decide +kernel
theorem dX5_kindOfWord_19 : decode cX5_kindOfWord 19 = .ok (.iload_n 2, 1) := by decide +kernel
theorem dX5_kindOfWord_20 : decode cX5_kindOfWord 20 = .ok (.invokevirtual 115, 3) := by decide +kernel
theorem dX5_kindOfWord_23 : decode cX5_kindOfWord 23 = .ok (.ifCond .eq 7, 3) := by decide +kernel
theorem dX5_kindOfWord_26 : decode cX5_kindOfWord 26 = .ok (.sipush 130, 3) := by decide +kernel
theorem dX5_kindOfWord_29 : decode cX5_kindOfWord 29 = .ok (.ireturn, 1) := by decide +kernel
theorem dX5_kindOfWord_30 : decode cX5_kindOfWord 30 = .ok (.aload_n 0, 1) := by decide +kernel
theorem dX5_kindOfWord_31 : decode cX5_kindOfWord 31 = .ok (.ldc 121, 2) := by decide +kernel
theorem dX5_kindOfWord_33 : decode cX5_kindOfWord 33 = .ok (.iload_n 1, 1) := by decide +kernel
theorem dX5_kindOfWord_34 : decode cX5_kindOfWord 34 = .ok (.iload_n 2, 1) := by decide +kernel
theorem dX5_kindOfWord_35 : decode cX5_kindOfWord 35 = .ok (.invokevirtual 115, 3) := by decide +kernel
theorem dX5_kindOfWord_38 : decode cX5_kindOfWord 38 = .ok (.ifCond .eq 7, 3) := by decide +kernel
theorem dX5_kindOfWord_41 : decode cX5_kindOfWord 41 = .ok (.sipush 131, 3) := by decide +kernel
theorem dX5_kindOfWord_44 : decode cX5_kindOfWord 44 = .ok (.ireturn, 1) := by decide +kernel
theorem dX5_kindOfWord_45 : decode cX5_kindOfWord 45 = .ok (.aload_n 0, 1) := by decide +kernel
theorem dX5_kindOfWord_46 : decode cX5_kindOfWord 46 = .ok (.ldc 123, 2) := by decide +kernel
theorem dX5_kindOfWord_48 : decode cX5_kindOfWord 48 = .ok (.iload_n 1, 1) := by decide +kernel
theorem dX5_kindOfWord_49 : decode cX5_kindOfWord 49 = .ok (.iload_n 2, 1) := by decide +kernel
theorem dX5_kindOfWord_50 : decode cX5_kindOfWord 50 = .ok (.invokevirtual 115, 3) := by decide +kernel
theorem dX5_kindOfWord_53 : decode cX5_kindOfWord 53 = .ok (.ifCond .eq 7, 3) := by decide +kernel
theorem dX5_kindOfWord_56 : decode cX5_kindOfWord 56 = .ok (.sipush 132, 3) := by decide +kernel
theorem dX5_kindOfWord_59 : decode cX5_kindOfWord 59 = .ok (.ireturn, 1) := by decide +kernel
theorem dX5_kindOfWord_60 : decode cX5_kindOfWord 60 = .ok (.aload_n 0, 1) := by decide +kernel
theorem dX5_kindOfWord_61 : decode cX5_kindOfWord 61 = .ok (.ldc 125, 2) := by decide +kernel
theorem dX5_kindOfWord_63 : decode cX5_kindOfWord 63 = .ok (.iload_n 1, 1) := by decide +kernel
theorem dX5_kindOfWord_64 : decode cX5_kindOfWord 64 = .ok (.iload_n 2, 1) := by decide +kernel
theorem dX5_kindOfWord_65 : decode cX5_kindOfWord 65 = .ok (.invokevirtual 115, 3) := by decide +kernel
theorem dX5_kindOfWord_68 : decode cX5_kindOfWord 68 = .ok (.ifCond .eq 7, 3) := by decide +kernel
theorem dX5_kindOfWord_71 : decode cX5_kindOfWord 71 = .ok (.sipush 133, 3) := by decide +kernel
theorem dX5_kindOfWord_74 : decode cX5_kindOfWord 74 = .ok (.ireturn, 1) := by decide +kernel
theorem dX5_kindOfWord_75 : decode cX5_kindOfWord 75 = .ok (.aload_n 0, 1) := by decide +kernel
theorem dX5_kindOfWord_76 : decode cX5_kindOfWord 76 = .ok (.ldc 127, 2) := by decide +kernel
theorem dX5_kindOfWord_78 : decode cX5_kindOfWord 78 = .ok (.iload_n 1, 1) := by decide +kernel
theorem dX5_kindOfWord_79 : decode cX5_kindOfWord 79 = .ok (.iload_n 2, 1) := by decide +kernel
theorem dX5_kindOfWord_80 : decode cX5_kindOfWord 80 = .ok (.invokevirtual 115, 3) := by decide +kernel
theorem dX5_kindOfWord_83 : decode cX5_kindOfWord 83 = .ok (.ifCond .eq 7, 3) := by decide +kernel
theorem dX5_kindOfWord_86 : decode cX5_kindOfWord 86 = .ok (.sipush 134, 3) := by decide +kernel
theorem dX5_kindOfWord_89 : decode cX5_kindOfWord 89 = .ok (.ireturn, 1) := by decide +kernel
theorem dX5_kindOfWord_90 : decode cX5_kindOfWord 90 = .ok (.aload_n 0, 1) := by decide +kernel
theorem dX5_kindOfWord_91 : decode cX5_kindOfWord 91 = .ok (.ldc 129, 2) := by decide +kernel
theorem dX5_kindOfWord_93 : decode cX5_kindOfWord 93 = .ok (.iload_n 1, 1) := by decide +kernel
theorem dX5_kindOfWord_94 : decode cX5_kindOfWord 94 = .ok (.iload_n 2, 1) := by decide +kernel
theorem dX5_kindOfWord_95 : decode cX5_kindOfWord 95 = .ok (.invokevirtual 115, 3) := by decide +kernel
theorem dX5_kindOfWord_98 : decode cX5_kindOfWord 98 = .ok (.ifCond .eq 7, 3) := by decide +kernel
theorem dX5_kindOfWord_101 : decode cX5_kindOfWord 101 = .ok (.sipush 135, 3) := by decide +kernel
theorem dX5_kindOfWord_104 : decode cX5_kindOfWord 104 = .ok (.ireturn, 1) := by decide +kernel
theorem dX5_kindOfWord_105 : decode cX5_kindOfWord 105 = .ok (.aload_n 0, 1) := by decide +kernel
theorem dX5_kindOfWord_106 : decode cX5_kindOfWord 106 = .ok (.ldc 131, 2) := by decide +kernel
theorem dX5_kindOfWord_108 : decode cX5_kindOfWord 108 = .ok (.iload_n 1, 1) := by decide +kernel
theorem dX5_kindOfWord_109 : decode cX5_kindOfWord 109 = .ok (.iload_n 2, 1) := by decide +kernel
theorem dX5_kindOfWord_110 : decode cX5_kindOfWord 110 = .ok (.invokevirtual 115, 3) := by decide +kernel
theorem dX5_kindOfWord_113 : decode cX5_kindOfWord 113 = .ok (.ifCond .eq 7, 3) := by decide +kernel
theorem dX5_kindOfWord_116 : decode cX5_kindOfWord 116 = .ok (.sipush 136, 3) := by decide +kernel
theorem dX5_kindOfWord_119 : decode cX5_kindOfWord 119 = .ok (.ireturn, 1) := by decide +kernel
theorem dX5_kindOfWord_120 : decode cX5_kindOfWord 120 = .ok (.aload_n 0, 1) := by decide +kernel
theorem dX5_kindOfWord_121 : decode cX5_kindOfWord 121 = .ok (.ldc 133, 2) := by decide +kernel
theorem dX5_kindOfWord_123 : decode cX5_kindOfWord 123 = .ok (.iload_n 1, 1) := by decide +kernel
theorem dX5_kindOfWord_124 : decode cX5_kindOfWord 124 = .ok (.iload_n 2, 1) := by decide +kernel
theorem dX5_kindOfWord_125 : decode cX5_kindOfWord 125 = .ok (.invokevirtual 115, 3) := by decide +kernel
theorem dX5_kindOfWord_128 : decode cX5_kindOfWord 128 = .ok (.ifCond .eq 7, 3) := by decide +kernel
theorem dX5_kindOfWord_131 : decode cX5_kindOfWord 131 = .ok (.sipush 137, 3) := by decide +kernel
theorem dX5_kindOfWord_134 : decode cX5_kindOfWord 134 = .ok (.ireturn, 1) := by decide +kernel
theorem dX5_kindOfWord_135 : decode cX5_kindOfWord 135 = .ok (.aload_n 0, 1) := by decide +kernel
theorem dX5_kindOfWord_136 : decode cX5_kindOfWord 136 = .ok (.ldc 135, 2) := by decide +kernel
theorem dX5_kindOfWord_138 : decode cX5_kindOfWord 138 = .ok (.iload_n 1, 1) := by decide +kernel
theorem dX5_kindOfWord_139 : decode cX5_kindOfWord 139 = .ok (.iload_n 2, 1) := by decide +kernel
theorem dX5_kindOfWord_140 : decode cX5_kindOfWord 140 = .ok (.invokevirtual 115, 3) := by decide +kernel
theorem dX5_kindOfWord_143 : decode cX5_kindOfWord 143 = .ok (.ifCond .eq 7, 3) := by decide +kernel
theorem dX5_kindOfWord_146 : decode cX5_kindOfWord 146 = .ok (.sipush 138, 3) := by decide +kernel
theorem dX5_kindOfWord_149 : decode cX5_kindOfWord 149 = .ok (.ireturn, 1) := by decide +kernel
theorem dX5_kindOfWord_150 : decode cX5_kindOfWord 150 = .ok (.aload_n 0, 1) := by decide +kernel
theorem dX5_kindOfWord_151 : decode cX5_kindOfWord 151 = .ok (.ldc 137, 2) := by decide +kernel
theorem dX5_kindOfWord_153 : decode cX5_kindOfWord 153 = .ok (.iload_n 1, 1) := by decide +kernel
theorem dX5_kindOfWord_154 : decode cX5_kindOfWord 154 = .ok (.iload_n 2, 1) := by decide +kernel
theorem dX5_kindOfWord_155 : decode cX5_kindOfWord 155 = .ok (.invokevirtual 115, 3) := by decide +kernel
theorem dX5_kindOfWord_158 : decode cX5_kindOfWord 158 = .ok (.ifCond .eq 7, 3) := by decide +kernel
theorem dX5_kindOfWord_161 : decode cX5_kindOfWord 161 = .ok (.sipush 139, 3) := by decide +kernel
theorem dX5_kindOfWord_164 : decode cX5_kindOfWord 164 = .ok (.ireturn, 1) := by decide +kernel
theorem dX5_kindOfWord_165 : decode cX5_kindOfWord 165 = .ok (.aload_n 0, 1) := by decide +kernel
theorem dX5_kindOfWord_166 : decode cX5_kindOfWord 166 = .ok (.ldc 139, 2) := by decide +kernel
theorem dX5_kindOfWord_168 : decode cX5_kindOfWord 168 = .ok (.iload_n 1, 1) := by decide +kernel
theorem dX5_kindOfWord_169 : decode cX5_kindOfWord 169 = .ok (.iload_n 2, 1) := by decide +kernel
theorem dX5_kindOfWord_170 : decode cX5_kindOfWord 170 = .ok (.invokevirtual 115, 3) := by decide +kernel
theorem dX5_kindOfWord_173 : decode cX5_kindOfWord 173 = .ok (.ifCond .eq 7, 3) := by decide +kernel
theorem dX5_kindOfWord_176 : decode cX5_kindOfWord 176 = .ok (.sipush 140, 3) := by decide +kernel
theorem dX5_kindOfWord_179 : decode cX5_kindOfWord 179 = .ok (.ireturn, 1) := by decide +kernel
theorem dX5_kindOfWord_180 : decode cX5_kindOfWord 180 = .ok (.aload_n 0, 1) := by decide +kernel
theorem dX5_kindOfWord_181 : decode cX5_kindOfWord 181 = .ok (.ldc 141, 2) := by decide +kernel
theorem dX5_kindOfWord_183 : decode cX5_kindOfWord 183 = .ok (.iload_n 1, 1) := by decide +kernel
theorem dX5_kindOfWord_184 : decode cX5_kindOfWord 184 = .ok (.iload_n 2, 1) := by decide +kernel
theorem dX5_kindOfWord_185 : decode cX5_kindOfWord 185 = .ok (.invokevirtual 115, 3) := by decide +kernel
theorem dX5_kindOfWord_188 : decode cX5_kindOfWord 188 = .ok (.ifCond .eq 7, 3) := by decide +kernel
theorem dX5_kindOfWord_191 : decode cX5_kindOfWord 191 = .ok (.sipush 141, 3) := by decide +kernel
theorem dX5_kindOfWord_194 : decode cX5_kindOfWord 194 = .ok (.ireturn, 1) := by decide +kernel
theorem dX5_kindOfWord_195 : decode cX5_kindOfWord 195 = .ok (.sipush 128, 3) := by decide +kernel
theorem dX5_kindOfWord_198 : decode cX5_kindOfWord 198 = .ok (.ireturn, 1) := by decide +kernel
set_option maxHeartbeats 4000000 in
set_option maxRecDepth 100000 in
theorem c_X5_kindOfWord (r x XL b e : Nat) {n : Nat} {kd : mK} {I : mI} {J : mJ} {P : mP} (k0 : kd r = some (0, 5)) (x0 : P r 0 = some x) (kx : kd x = some (2, XL)) (xl : XL < 2 ^ 30) (heb : b ≤ e) (heX : e ≤ XL) : Ct yX5_kindOfWord cX5_kindOfWord 3 (some .int) 6 0 0 [.ref r, .int (nI b), .int (nI e)] n kd I J P (am_is (some (.int (kow (I x) b e))) n kd I J P) := by
  unfold kow kwL
  refine ct_of 0 (by decide +kernel) (Nat.le_of_ble_eq_true rfl) rfl ?_
  unfold kwF
  by_cases c0 : spl (I x) 0 b e = true
  · rw [if_pos c0]
    refine r_aload_n dX5_kindOfWord_0 rfl ?_
    refine r_ldcS (i := 0) dX5_kindOfWord_1 sr_X5_113 (by decide) ?_
    refine r_iload_n dX5_kindOfWord_3 rfl ?_
    refine r_iload_n dX5_kindOfWord_4 rfl ?_
    refine r_virtE (c_X5_spells r x XL 0 b e k0 x0 kx xl (by decide) heb heX) lk_X5_115 mc_X5_spells dX5_kindOfWord_5 k0 (by decide) rfl rfl (Nat.le_of_ble_eq_true rfl) ?_
    refine r_if_eq (tgt := 15) dX5_kindOfWord_8 (by decide) (fun hz => absurd hz (show ¬ _ from by rw [c0]; decide)) (fun _ => ?_)
    refine r_sipush (v := nI 129) dX5_kindOfWord_11 (by decide) ?_
    refine r_iret rfl dX5_kindOfWord_14 ?_
    exact am_is.mk
  rw [if_neg c0]
  have d0 : spl (I x) 0 b e = false := by simpa using c0
  refine r_aload_n dX5_kindOfWord_0 rfl ?_
  refine r_ldcS (i := 0) dX5_kindOfWord_1 sr_X5_113 (by decide) ?_
  refine r_iload_n dX5_kindOfWord_3 rfl ?_
  refine r_iload_n dX5_kindOfWord_4 rfl ?_
  refine r_virtE (c_X5_spells r x XL 0 b e k0 x0 kx xl (by decide) heb heX) lk_X5_115 mc_X5_spells dX5_kindOfWord_5 k0 (by decide) rfl rfl (Nat.le_of_ble_eq_true rfl) ?_
  refine r_if_eq (tgt := 15) dX5_kindOfWord_8 (by decide) (fun _ => ?_) (fun hz => absurd (show _ from by rw [d0]; rfl) hz)
  skip
  unfold kwF
  by_cases c1 : spl (I x) 1 b e = true
  · rw [if_pos c1]
    refine r_aload_n dX5_kindOfWord_15 rfl ?_
    refine r_ldcS (i := 1) dX5_kindOfWord_16 sr_X5_119 (by decide) ?_
    refine r_iload_n dX5_kindOfWord_18 rfl ?_
    refine r_iload_n dX5_kindOfWord_19 rfl ?_
    refine r_virtE (c_X5_spells r x XL 1 b e k0 x0 kx xl (by decide) heb heX) lk_X5_115 mc_X5_spells dX5_kindOfWord_20 k0 (by decide) rfl rfl (Nat.le_of_ble_eq_true rfl) ?_
    refine r_if_eq (tgt := 30) dX5_kindOfWord_23 (by decide) (fun hz => absurd hz (show ¬ _ from by rw [c1]; decide)) (fun _ => ?_)
    refine r_sipush (v := nI 130) dX5_kindOfWord_26 (by decide) ?_
    refine r_iret rfl dX5_kindOfWord_29 ?_
    exact am_is.mk
  rw [if_neg c1]
  have d1 : spl (I x) 1 b e = false := by simpa using c1
  refine r_aload_n dX5_kindOfWord_15 rfl ?_
  refine r_ldcS (i := 1) dX5_kindOfWord_16 sr_X5_119 (by decide) ?_
  refine r_iload_n dX5_kindOfWord_18 rfl ?_
  refine r_iload_n dX5_kindOfWord_19 rfl ?_
  refine r_virtE (c_X5_spells r x XL 1 b e k0 x0 kx xl (by decide) heb heX) lk_X5_115 mc_X5_spells dX5_kindOfWord_20 k0 (by decide) rfl rfl (Nat.le_of_ble_eq_true rfl) ?_
  refine r_if_eq (tgt := 30) dX5_kindOfWord_23 (by decide) (fun _ => ?_) (fun hz => absurd (show _ from by rw [d1]; rfl) hz)
  skip
  unfold kwF
  by_cases c2 : spl (I x) 2 b e = true
  · rw [if_pos c2]
    refine r_aload_n dX5_kindOfWord_30 rfl ?_
    refine r_ldcS (i := 2) dX5_kindOfWord_31 sr_X5_121 (by decide) ?_
    refine r_iload_n dX5_kindOfWord_33 rfl ?_
    refine r_iload_n dX5_kindOfWord_34 rfl ?_
    refine r_virtE (c_X5_spells r x XL 2 b e k0 x0 kx xl (by decide) heb heX) lk_X5_115 mc_X5_spells dX5_kindOfWord_35 k0 (by decide) rfl rfl (Nat.le_of_ble_eq_true rfl) ?_
    refine r_if_eq (tgt := 45) dX5_kindOfWord_38 (by decide) (fun hz => absurd hz (show ¬ _ from by rw [c2]; decide)) (fun _ => ?_)
    refine r_sipush (v := nI 131) dX5_kindOfWord_41 (by decide) ?_
    refine r_iret rfl dX5_kindOfWord_44 ?_
    exact am_is.mk
  rw [if_neg c2]
  have d2 : spl (I x) 2 b e = false := by simpa using c2
  refine r_aload_n dX5_kindOfWord_30 rfl ?_
  refine r_ldcS (i := 2) dX5_kindOfWord_31 sr_X5_121 (by decide) ?_
  refine r_iload_n dX5_kindOfWord_33 rfl ?_
  refine r_iload_n dX5_kindOfWord_34 rfl ?_
  refine r_virtE (c_X5_spells r x XL 2 b e k0 x0 kx xl (by decide) heb heX) lk_X5_115 mc_X5_spells dX5_kindOfWord_35 k0 (by decide) rfl rfl (Nat.le_of_ble_eq_true rfl) ?_
  refine r_if_eq (tgt := 45) dX5_kindOfWord_38 (by decide) (fun _ => ?_) (fun hz => absurd (show _ from by rw [d2]; rfl) hz)
  skip
  unfold kwF
  by_cases c3 : spl (I x) 3 b e = true
  · rw [if_pos c3]
    refine r_aload_n dX5_kindOfWord_45 rfl ?_
    refine r_ldcS (i := 3) dX5_kindOfWord_46 sr_X5_123 (by decide) ?_
    refine r_iload_n dX5_kindOfWord_48 rfl ?_
    refine r_iload_n dX5_kindOfWord_49 rfl ?_
    refine r_virtE (c_X5_spells r x XL 3 b e k0 x0 kx xl (by decide) heb heX) lk_X5_115 mc_X5_spells dX5_kindOfWord_50 k0 (by decide) rfl rfl (Nat.le_of_ble_eq_true rfl) ?_
    refine r_if_eq (tgt := 60) dX5_kindOfWord_53 (by decide) (fun hz => absurd hz (show ¬ _ from by rw [c3]; decide)) (fun _ => ?_)
    refine r_sipush (v := nI 132) dX5_kindOfWord_56 (by decide) ?_
    refine r_iret rfl dX5_kindOfWord_59 ?_
    exact am_is.mk
  rw [if_neg c3]
  have d3 : spl (I x) 3 b e = false := by simpa using c3
  refine r_aload_n dX5_kindOfWord_45 rfl ?_
  refine r_ldcS (i := 3) dX5_kindOfWord_46 sr_X5_123 (by decide) ?_
  refine r_iload_n dX5_kindOfWord_48 rfl ?_
  refine r_iload_n dX5_kindOfWord_49 rfl ?_
  refine r_virtE (c_X5_spells r x XL 3 b e k0 x0 kx xl (by decide) heb heX) lk_X5_115 mc_X5_spells dX5_kindOfWord_50 k0 (by decide) rfl rfl (Nat.le_of_ble_eq_true rfl) ?_
  refine r_if_eq (tgt := 60) dX5_kindOfWord_53 (by decide) (fun _ => ?_) (fun hz => absurd (show _ from by rw [d3]; rfl) hz)
  skip
  unfold kwF
  by_cases c4 : spl (I x) 4 b e = true
  · rw [if_pos c4]
    refine r_aload_n dX5_kindOfWord_60 rfl ?_
    refine r_ldcS (i := 4) dX5_kindOfWord_61 sr_X5_125 (by decide) ?_
    refine r_iload_n dX5_kindOfWord_63 rfl ?_
    refine r_iload_n dX5_kindOfWord_64 rfl ?_
    refine r_virtE (c_X5_spells r x XL 4 b e k0 x0 kx xl (by decide) heb heX) lk_X5_115 mc_X5_spells dX5_kindOfWord_65 k0 (by decide) rfl rfl (Nat.le_of_ble_eq_true rfl) ?_
    refine r_if_eq (tgt := 75) dX5_kindOfWord_68 (by decide) (fun hz => absurd hz (show ¬ _ from by rw [c4]; decide)) (fun _ => ?_)
    refine r_sipush (v := nI 133) dX5_kindOfWord_71 (by decide) ?_
    refine r_iret rfl dX5_kindOfWord_74 ?_
    exact am_is.mk
  rw [if_neg c4]
  have d4 : spl (I x) 4 b e = false := by simpa using c4
  refine r_aload_n dX5_kindOfWord_60 rfl ?_
  refine r_ldcS (i := 4) dX5_kindOfWord_61 sr_X5_125 (by decide) ?_
  refine r_iload_n dX5_kindOfWord_63 rfl ?_
  refine r_iload_n dX5_kindOfWord_64 rfl ?_
  refine r_virtE (c_X5_spells r x XL 4 b e k0 x0 kx xl (by decide) heb heX) lk_X5_115 mc_X5_spells dX5_kindOfWord_65 k0 (by decide) rfl rfl (Nat.le_of_ble_eq_true rfl) ?_
  refine r_if_eq (tgt := 75) dX5_kindOfWord_68 (by decide) (fun _ => ?_) (fun hz => absurd (show _ from by rw [d4]; rfl) hz)
  skip
  unfold kwF
  by_cases c5 : spl (I x) 5 b e = true
  · rw [if_pos c5]
    refine r_aload_n dX5_kindOfWord_75 rfl ?_
    refine r_ldcS (i := 5) dX5_kindOfWord_76 sr_X5_127 (by decide) ?_
    refine r_iload_n dX5_kindOfWord_78 rfl ?_
    refine r_iload_n dX5_kindOfWord_79 rfl ?_
    refine r_virtE (c_X5_spells r x XL 5 b e k0 x0 kx xl (by decide) heb heX) lk_X5_115 mc_X5_spells dX5_kindOfWord_80 k0 (by decide) rfl rfl (Nat.le_of_ble_eq_true rfl) ?_
    refine r_if_eq (tgt := 90) dX5_kindOfWord_83 (by decide) (fun hz => absurd hz (show ¬ _ from by rw [c5]; decide)) (fun _ => ?_)
    refine r_sipush (v := nI 134) dX5_kindOfWord_86 (by decide) ?_
    refine r_iret rfl dX5_kindOfWord_89 ?_
    exact am_is.mk
  rw [if_neg c5]
  have d5 : spl (I x) 5 b e = false := by simpa using c5
  refine r_aload_n dX5_kindOfWord_75 rfl ?_
  refine r_ldcS (i := 5) dX5_kindOfWord_76 sr_X5_127 (by decide) ?_
  refine r_iload_n dX5_kindOfWord_78 rfl ?_
  refine r_iload_n dX5_kindOfWord_79 rfl ?_
  refine r_virtE (c_X5_spells r x XL 5 b e k0 x0 kx xl (by decide) heb heX) lk_X5_115 mc_X5_spells dX5_kindOfWord_80 k0 (by decide) rfl rfl (Nat.le_of_ble_eq_true rfl) ?_
  refine r_if_eq (tgt := 90) dX5_kindOfWord_83 (by decide) (fun _ => ?_) (fun hz => absurd (show _ from by rw [d5]; rfl) hz)
  skip
  unfold kwF
  by_cases c6 : spl (I x) 6 b e = true
  · rw [if_pos c6]
    refine r_aload_n dX5_kindOfWord_90 rfl ?_
    refine r_ldcS (i := 6) dX5_kindOfWord_91 sr_X5_129 (by decide) ?_
    refine r_iload_n dX5_kindOfWord_93 rfl ?_
    refine r_iload_n dX5_kindOfWord_94 rfl ?_
    refine r_virtE (c_X5_spells r x XL 6 b e k0 x0 kx xl (by decide) heb heX) lk_X5_115 mc_X5_spells dX5_kindOfWord_95 k0 (by decide) rfl rfl (Nat.le_of_ble_eq_true rfl) ?_
    refine r_if_eq (tgt := 105) dX5_kindOfWord_98 (by decide) (fun hz => absurd hz (show ¬ _ from by rw [c6]; decide)) (fun _ => ?_)
    refine r_sipush (v := nI 135) dX5_kindOfWord_101 (by decide) ?_
    refine r_iret rfl dX5_kindOfWord_104 ?_
    exact am_is.mk
  rw [if_neg c6]
  have d6 : spl (I x) 6 b e = false := by simpa using c6
  refine r_aload_n dX5_kindOfWord_90 rfl ?_
  refine r_ldcS (i := 6) dX5_kindOfWord_91 sr_X5_129 (by decide) ?_
  refine r_iload_n dX5_kindOfWord_93 rfl ?_
  refine r_iload_n dX5_kindOfWord_94 rfl ?_
  refine r_virtE (c_X5_spells r x XL 6 b e k0 x0 kx xl (by decide) heb heX) lk_X5_115 mc_X5_spells dX5_kindOfWord_95 k0 (by decide) rfl rfl (Nat.le_of_ble_eq_true rfl) ?_
  refine r_if_eq (tgt := 105) dX5_kindOfWord_98 (by decide) (fun _ => ?_) (fun hz => absurd (show _ from by rw [d6]; rfl) hz)
  skip
  unfold kwF
  by_cases c7 : spl (I x) 7 b e = true
  · rw [if_pos c7]
    refine r_aload_n dX5_kindOfWord_105 rfl ?_
    refine r_ldcS (i := 7) dX5_kindOfWord_106 sr_X5_131 (by decide) ?_
    refine r_iload_n dX5_kindOfWord_108 rfl ?_
    refine r_iload_n dX5_kindOfWord_109 rfl ?_
    refine r_virtE (c_X5_spells r x XL 7 b e k0 x0 kx xl (by decide) heb heX) lk_X5_115 mc_X5_spells dX5_kindOfWord_110 k0 (by decide) rfl rfl (Nat.le_of_ble_eq_true rfl) ?_
    refine r_if_eq (tgt := 120) dX5_kindOfWord_113 (by decide) (fun hz => absurd hz (show ¬ _ from by rw [c7]; decide)) (fun _ => ?_)
    refine r_sipush (v := nI 136) dX5_kindOfWord_116 (by decide) ?_
    refine r_iret rfl dX5_kindOfWord_119 ?_
    exact am_is.mk
  rw [if_neg c7]
  have d7 : spl (I x) 7 b e = false := by simpa using c7
  refine r_aload_n dX5_kindOfWord_105 rfl ?_
  refine r_ldcS (i := 7) dX5_kindOfWord_106 sr_X5_131 (by decide) ?_
  refine r_iload_n dX5_kindOfWord_108 rfl ?_
  refine r_iload_n dX5_kindOfWord_109 rfl ?_
  refine r_virtE (c_X5_spells r x XL 7 b e k0 x0 kx xl (by decide) heb heX) lk_X5_115 mc_X5_spells dX5_kindOfWord_110 k0 (by decide) rfl rfl (Nat.le_of_ble_eq_true rfl) ?_
  refine r_if_eq (tgt := 120) dX5_kindOfWord_113 (by decide) (fun _ => ?_) (fun hz => absurd (show _ from by rw [d7]; rfl) hz)
  skip
  unfold kwF
  by_cases c8 : spl (I x) 8 b e = true
  · rw [if_pos c8]
    refine r_aload_n dX5_kindOfWord_120 rfl ?_
    refine r_ldcS (i := 8) dX5_kindOfWord_121 sr_X5_133 (by decide) ?_
    refine r_iload_n dX5_kindOfWord_123 rfl ?_
    refine r_iload_n dX5_kindOfWord_124 rfl ?_
    refine r_virtE (c_X5_spells r x XL 8 b e k0 x0 kx xl (by decide) heb heX) lk_X5_115 mc_X5_spells dX5_kindOfWord_125 k0 (by decide) rfl rfl (Nat.le_of_ble_eq_true rfl) ?_
    refine r_if_eq (tgt := 135) dX5_kindOfWord_128 (by decide) (fun hz => absurd hz (show ¬ _ from by rw [c8]; decide)) (fun _ => ?_)
    refine r_sipush (v := nI 137) dX5_kindOfWord_131 (by decide) ?_
    refine r_iret rfl dX5_kindOfWord_134 ?_
    exact am_is.mk
  rw [if_neg c8]
  have d8 : spl (I x) 8 b e = false := by simpa using c8
  refine r_aload_n dX5_kindOfWord_120 rfl ?_
  refine r_ldcS (i := 8) dX5_kindOfWord_121 sr_X5_133 (by decide) ?_
  refine r_iload_n dX5_kindOfWord_123 rfl ?_
  refine r_iload_n dX5_kindOfWord_124 rfl ?_
  refine r_virtE (c_X5_spells r x XL 8 b e k0 x0 kx xl (by decide) heb heX) lk_X5_115 mc_X5_spells dX5_kindOfWord_125 k0 (by decide) rfl rfl (Nat.le_of_ble_eq_true rfl) ?_
  refine r_if_eq (tgt := 135) dX5_kindOfWord_128 (by decide) (fun _ => ?_) (fun hz => absurd (show _ from by rw [d8]; rfl) hz)
  skip
  unfold kwF
  by_cases c9 : spl (I x) 9 b e = true
  · rw [if_pos c9]
    refine r_aload_n dX5_kindOfWord_135 rfl ?_
    refine r_ldcS (i := 9) dX5_kindOfWord_136 sr_X5_135 (by decide) ?_
    refine r_iload_n dX5_kindOfWord_138 rfl ?_
    refine r_iload_n dX5_kindOfWord_139 rfl ?_
    refine r_virtE (c_X5_spells r x XL 9 b e k0 x0 kx xl (by decide) heb heX) lk_X5_115 mc_X5_spells dX5_kindOfWord_140 k0 (by decide) rfl rfl (Nat.le_of_ble_eq_true rfl) ?_
    refine r_if_eq (tgt := 150) dX5_kindOfWord_143 (by decide) (fun hz => absurd hz (show ¬ _ from by rw [c9]; decide)) (fun _ => ?_)
    refine r_sipush (v := nI 138) dX5_kindOfWord_146 (by decide) ?_
    refine r_iret rfl dX5_kindOfWord_149 ?_
    exact am_is.mk
  rw [if_neg c9]
  have d9 : spl (I x) 9 b e = false := by simpa using c9
  refine r_aload_n dX5_kindOfWord_135 rfl ?_
  refine r_ldcS (i := 9) dX5_kindOfWord_136 sr_X5_135 (by decide) ?_
  refine r_iload_n dX5_kindOfWord_138 rfl ?_
  refine r_iload_n dX5_kindOfWord_139 rfl ?_
  refine r_virtE (c_X5_spells r x XL 9 b e k0 x0 kx xl (by decide) heb heX) lk_X5_115 mc_X5_spells dX5_kindOfWord_140 k0 (by decide) rfl rfl (Nat.le_of_ble_eq_true rfl) ?_
  refine r_if_eq (tgt := 150) dX5_kindOfWord_143 (by decide) (fun _ => ?_) (fun hz => absurd (show _ from by rw [d9]; rfl) hz)
  skip
  unfold kwF
  by_cases c10 : spl (I x) 10 b e = true
  · rw [if_pos c10]
    refine r_aload_n dX5_kindOfWord_150 rfl ?_
    refine r_ldcS (i := 10) dX5_kindOfWord_151 sr_X5_137 (by decide) ?_
    refine r_iload_n dX5_kindOfWord_153 rfl ?_
    refine r_iload_n dX5_kindOfWord_154 rfl ?_
    refine r_virtE (c_X5_spells r x XL 10 b e k0 x0 kx xl (by decide) heb heX) lk_X5_115 mc_X5_spells dX5_kindOfWord_155 k0 (by decide) rfl rfl (Nat.le_of_ble_eq_true rfl) ?_
    refine r_if_eq (tgt := 165) dX5_kindOfWord_158 (by decide) (fun hz => absurd hz (show ¬ _ from by rw [c10]; decide)) (fun _ => ?_)
    refine r_sipush (v := nI 139) dX5_kindOfWord_161 (by decide) ?_
    refine r_iret rfl dX5_kindOfWord_164 ?_
    exact am_is.mk
  rw [if_neg c10]
  have d10 : spl (I x) 10 b e = false := by simpa using c10
  refine r_aload_n dX5_kindOfWord_150 rfl ?_
  refine r_ldcS (i := 10) dX5_kindOfWord_151 sr_X5_137 (by decide) ?_
  refine r_iload_n dX5_kindOfWord_153 rfl ?_
  refine r_iload_n dX5_kindOfWord_154 rfl ?_
  refine r_virtE (c_X5_spells r x XL 10 b e k0 x0 kx xl (by decide) heb heX) lk_X5_115 mc_X5_spells dX5_kindOfWord_155 k0 (by decide) rfl rfl (Nat.le_of_ble_eq_true rfl) ?_
  refine r_if_eq (tgt := 165) dX5_kindOfWord_158 (by decide) (fun _ => ?_) (fun hz => absurd (show _ from by rw [d10]; rfl) hz)
  skip
  unfold kwF
  by_cases c11 : spl (I x) 11 b e = true
  · rw [if_pos c11]
    refine r_aload_n dX5_kindOfWord_165 rfl ?_
    refine r_ldcS (i := 11) dX5_kindOfWord_166 sr_X5_139 (by decide) ?_
    refine r_iload_n dX5_kindOfWord_168 rfl ?_
    refine r_iload_n dX5_kindOfWord_169 rfl ?_
    refine r_virtE (c_X5_spells r x XL 11 b e k0 x0 kx xl (by decide) heb heX) lk_X5_115 mc_X5_spells dX5_kindOfWord_170 k0 (by decide) rfl rfl (Nat.le_of_ble_eq_true rfl) ?_
    refine r_if_eq (tgt := 180) dX5_kindOfWord_173 (by decide) (fun hz => absurd hz (show ¬ _ from by rw [c11]; decide)) (fun _ => ?_)
    refine r_sipush (v := nI 140) dX5_kindOfWord_176 (by decide) ?_
    refine r_iret rfl dX5_kindOfWord_179 ?_
    exact am_is.mk
  rw [if_neg c11]
  have d11 : spl (I x) 11 b e = false := by simpa using c11
  refine r_aload_n dX5_kindOfWord_165 rfl ?_
  refine r_ldcS (i := 11) dX5_kindOfWord_166 sr_X5_139 (by decide) ?_
  refine r_iload_n dX5_kindOfWord_168 rfl ?_
  refine r_iload_n dX5_kindOfWord_169 rfl ?_
  refine r_virtE (c_X5_spells r x XL 11 b e k0 x0 kx xl (by decide) heb heX) lk_X5_115 mc_X5_spells dX5_kindOfWord_170 k0 (by decide) rfl rfl (Nat.le_of_ble_eq_true rfl) ?_
  refine r_if_eq (tgt := 180) dX5_kindOfWord_173 (by decide) (fun _ => ?_) (fun hz => absurd (show _ from by rw [d11]; rfl) hz)
  skip
  unfold kwF
  by_cases c12 : spl (I x) 12 b e = true
  · rw [if_pos c12]
    refine r_aload_n dX5_kindOfWord_180 rfl ?_
    refine r_ldcS (i := 12) dX5_kindOfWord_181 sr_X5_141 (by decide) ?_
    refine r_iload_n dX5_kindOfWord_183 rfl ?_
    refine r_iload_n dX5_kindOfWord_184 rfl ?_
    refine r_virtE (c_X5_spells r x XL 12 b e k0 x0 kx xl (by decide) heb heX) lk_X5_115 mc_X5_spells dX5_kindOfWord_185 k0 (by decide) rfl rfl (Nat.le_of_ble_eq_true rfl) ?_
    refine r_if_eq (tgt := 195) dX5_kindOfWord_188 (by decide) (fun hz => absurd hz (show ¬ _ from by rw [c12]; decide)) (fun _ => ?_)
    refine r_sipush (v := nI 141) dX5_kindOfWord_191 (by decide) ?_
    refine r_iret rfl dX5_kindOfWord_194 ?_
    exact am_is.mk
  rw [if_neg c12]
  have d12 : spl (I x) 12 b e = false := by simpa using c12
  refine r_aload_n dX5_kindOfWord_180 rfl ?_
  refine r_ldcS (i := 12) dX5_kindOfWord_181 sr_X5_141 (by decide) ?_
  refine r_iload_n dX5_kindOfWord_183 rfl ?_
  refine r_iload_n dX5_kindOfWord_184 rfl ?_
  refine r_virtE (c_X5_spells r x XL 12 b e k0 x0 kx xl (by decide) heb heX) lk_X5_115 mc_X5_spells dX5_kindOfWord_185 k0 (by decide) rfl rfl (Nat.le_of_ble_eq_true rfl) ?_
  refine r_if_eq (tgt := 195) dX5_kindOfWord_188 (by decide) (fun _ => ?_) (fun hz => absurd (show _ from by rw [d12]; rfl) hz)
  skip
  unfold kwF
  refine r_sipush (v := nI 128) dX5_kindOfWord_195 (by decide) ?_
  refine r_iret rfl dX5_kindOfWord_198 ?_
  exact am_is.mk

