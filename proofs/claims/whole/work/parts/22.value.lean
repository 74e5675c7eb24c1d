/-! A RIDDLE'S VALUE: codes, operands ahead of what joins them, worked with a pile -/
theorem z_eq {k : Nat} (h : k < 2 ^ 31) : nI k = 0 ↔ k = 0 := by rw [← nI_0]; exact nI_eq h (by omega)
theorem z_le {k : Nat} (h : k < 2 ^ 31) : nI k ≤ 0 ↔ k = 0 := by rw [← nI_0, nI_leI h (by omega)]; omega
theorem z_gt {k : Nat} (h : k < 2 ^ 31) : 0 < nI k ↔ 0 < k := by rw [← nI_0]; exact nI_ltI (by omega) h
theorem z_ge {k : Nat} (h : k < 2 ^ 31) : 0 ≤ nI k := nI_pos' h
theorem z_nlt {k : Nat} (h : k < 2 ^ 31) : ¬ nI k < 0 := nI_pos h
theorem nI_dec (k : Nat) : nI (k + 1) + Int32.ofInt (-1) = nI k := pk_m1 k
theorem nI_s1 (k : Nat) : nI (k + 1) - nI 1 = nI k := by rw [pk_sub (by omega)]; rfl
/-- one code's work on the pile (the last one put comes first) -/
def ev1 (opd : Nat → Int32) (c : Nat) (st : List Int32) : List Int32 :=
  if c < 20003 then (if c < 10000 then nI c else opd c) :: st
  else if c = 20003 then (match st with
    | x :: r => (if x = 0 then nI 1 else nI 0) :: r
    | [] => [])
  else match st with
    | y :: x :: r => jn (nI c) x y :: r
    | z => z
def evs (opd : Nat → Int32) : List Nat → List Int32 → List Int32
  | [], st => st
  | c :: t, st => evs opd t (ev1 opd c st)
def dep1 (c d : Nat) : Nat := if c < 20003 then d + 1 else if c = 20003 then d else d - 1
/-- the codes find what they need, and the pile stays within 40 -/
def okd : List Nat → Nat → Prop
  | [], d => 1 ≤ d
  | c :: t, d => (if c < 20003 then d < 40 else if c = 20003 then 1 ≤ d else 2 ≤ d ∧ c < 20012) ∧ okd t (dep1 c d)
def lastI (st : List Int32) : Int32 := match st.getLast? with
  | some x => x
  | none => nI 0
/-- the pile in the row R -/
def sr (R : Nat → Int32) : List Int32 → Prop
  | [] => True
  | x :: r => R r.length = x ∧ sr R r
theorem sr_up {R : Nat → Int32} {x : Int32} : ∀ {st : List Int32} {k : Nat}, st.length ≤ k → sr R st → sr (va_up R k x) st
  | [], _, _, _ => trivial
  | y :: r, k, hk, h => ⟨by rw [am_up_n R x (by simp at hk; omega)]; exact h.1, sr_up (by simp at hk; omega) h.2⟩
theorem sr_push {R : Nat → Int32} {st : List Int32} (x : Int32) (h : sr R st) : sr (va_up R st.length x) (x :: st) := ⟨am_up_s R _ x, sr_up (Nat.le_refl _) h⟩
theorem sr_0 {R : Nat → Int32} : ∀ {st : List Int32}, st ≠ [] → sr R st → R 0 = lastI st
  | [x], _, h => h.1
  | x :: y :: r, _, h => by
    have := sr_0 (st := y :: r) (by simp) h.2
    rw [this]
    simp [lastI, List.getLast?_cons_cons]
theorem evs_ne (opd : Nat → Int32) : ∀ (cs : List Nat) (st : List Int32), okd cs st.length → evs opd cs st ≠ []
  | [], st, h => by intro e; simp [evs] at e; subst e; exact absurd h (by simp [okd])
  | c :: t, st, h => by
    refine evs_ne opd t _ ?_
    have : (ev1 opd c st).length = dep1 c st.length := by
      have h1 := h.1
      unfold ev1 dep1
      by_cases a : c < 20003
      · simp [a]
      · rw [if_neg a] at h1
        by_cases b : c = 20003
        · rw [if_pos b] at h1
          match st, h1 with
          | x :: r, _ => simp [b]
        · rw [if_neg b] at h1
          match st, h1 with
          | y :: x :: r, _ => simp [a, b]
    rw [this]
    exact h.2
/-- an answer, and one row of scratch behind it -/
def am_sc (v : Option Value) (id n : Nat) (kd : mK) (I : mI) (J : mJ) (P : mP) : am_Post := fun o n' kd' I' J' P' => ∃ R : Nat → Int32, am_is v n kd (va_up I id R) J P o n' kd' I' J' P'
theorem am_up_up {α : Type} (F : Nat → α) (a : Nat) (r q : α) : va_up (va_up F a r) a q = va_up F a q := by
  funext b
  by_cases h : b = a
  · subst h; rw [am_up_s, am_up_s]
  · rw [am_up_n _ _ h, am_up_n _ _ h, am_up_n _ _ h]
theorem am_up_id {α : Type} (F : Nat → α) (a : Nat) : va_up F a (F a) = F := by
  funext b
  by_cases h : b = a
  · subst h; rw [am_up_s]
  · rw [am_up_n _ _ h]
/-- the operand of a code, by the memory -/
def opdS (I : mI) (b q l h H : Nat) (c : Nat) : Int32 := if c < 20000 then (if c - 10000 < H then I q (c - 10000) else nI 0) else if c = 20002 then I b 1 else if c = 20000 then I (l + 1) h else I (l + 2) h
theorem opdS_up {I : mI} {b q l h H : Nat} {R : Nat → Int32} (hq : q ≠ b + 8) (hl1 : l + 1 ≠ b + 8) (hl2 : l + 2 ≠ b + 8) (c : Nat) : opdS (va_up I (b + 8) R) b q l h H c = opdS I b q l h H c := by
  unfold opdS
  rw [am_up_n I R hq, am_up_n I R (by omega : b ≠ b + 8), am_up_n I R hl1, am_up_n I R hl2]

theorem dX7_valueOf_0 : decode cX7_valueOf 0 = .ok (.iload_n 1, 1) := by decide +kernel
theorem dX7_valueOf_1 : decode cX7_valueOf 1 = .ok (.ifCond .lt 11, 3) := by decide +kernel
theorem dX7_valueOf_4 : decode cX7_valueOf 4 = .ok (.iload_n 1, 1) := by decide +kernel
theorem dX7_valueOf_5 : decode cX7_valueOf 5 = .ok (.aload_n 0, 1) := by decide +kernel
theorem dX7_valueOf_6 : decode cX7_valueOf 6 = .ok (.getfield 9, 3) := by decide +kernel
theorem dX7_valueOf_9 : decode cX7_valueOf 9 = .ok (.if_icmp .lt 5, 3) := by decide +kernel
theorem dX7_valueOf_12 : decode cX7_valueOf 12 = .ok (.iconst 0, 1) := by decide +kernel
theorem dX7_valueOf_13 : decode cX7_valueOf 13 = .ok (.ireturn, 1) := by decide +kernel
theorem dX7_valueOf_14 : decode cX7_valueOf 14 = .ok (.iconst 0, 1) := by decide +kernel
theorem dX7_valueOf_15 : decode cX7_valueOf 15 = .ok (.istore 4, 2) := by decide +kernel
theorem dX7_valueOf_17 : decode cX7_valueOf 17 = .ok (.aload_n 0, 1) := by decide +kernel
theorem dX7_valueOf_18 : decode cX7_valueOf 18 = .ok (.getfield 35, 3) := by decide +kernel
theorem dX7_valueOf_21 : decode cX7_valueOf 21 = .ok (.iload_n 1, 1) := by decide +kernel
theorem dX7_valueOf_22 : decode cX7_valueOf 22 = .ok (.iaload, 1) := by decide +kernel
theorem dX7_valueOf_23 : decode cX7_valueOf 23 = .ok (.istore 5, 2) := by decide +kernel
theorem dX7_valueOf_25 : decode cX7_valueOf 25 = .ok (.iload 5, 2) := by decide +kernel
theorem dX7_valueOf_27 : decode cX7_valueOf 27 = .ok (.aload_n 0, 1) := by decide +kernel
theorem dX7_valueOf_28 : decode cX7_valueOf 28 = .ok (.getfield 38, 3) := by decide +kernel
theorem dX7_valueOf_31 : decode cX7_valueOf 31 = .ok (.iload_n 1, 1) := by decide +kernel
theorem dX7_valueOf_32 : decode cX7_valueOf 32 = .ok (.iaload, 1) := by decide +kernel
theorem dX7_valueOf_33 : decode cX7_valueOf 33 = .ok (.if_icmp .ge 152, 3) := by decide +kernel
theorem dX7_valueOf_36 : decode cX7_valueOf 36 = .ok (.aload_n 0, 1) := by decide +kernel
theorem dX7_valueOf_37 : decode cX7_valueOf 37 = .ok (.getfield 29, 3) := by decide +kernel
theorem dX7_valueOf_40 : decode cX7_valueOf 40 = .ok (.iload 5, 2) := by decide +kernel
theorem dX7_valueOf_42 : decode cX7_valueOf 42 = .ok (.iaload, 1) := by decide +kernel
theorem dX7_valueOf_43 : decode cX7_valueOf 43 = .ok (.istore 6, 2) := by decide +kernel
theorem dX7_valueOf_45 : decode cX7_valueOf 45 = .ok (.iload 6, 2) := by decide +kernel
theorem dX7_valueOf_47 : decode cX7_valueOf 47 = .ok (.sipush 20003, 3) := by decide +kernel
theorem dX7_valueOf_50 : decode cX7_valueOf 50 = .ok (.if_icmp .ge 48, 3) := by decide +kernel
theorem dX7_valueOf_53 : decode cX7_valueOf 53 = .ok (.iload 4, 2) := by decide +kernel
theorem dX7_valueOf_55 : decode cX7_valueOf 55 = .ok (.aload_n 0, 1) := by decide +kernel
theorem dX7_valueOf_56 : decode cX7_valueOf 56 = .ok (.getfield 54, 3) := by decide +kernel
theorem dX7_valueOf_59 : decode cX7_valueOf 59 = .ok (.arraylength, 1) := by decide +kernel
theorem dX7_valueOf_60 : decode cX7_valueOf 60 = .ok (.if_icmp .ge 119, 3) := by decide +kernel
theorem dX7_valueOf_63 : decode cX7_valueOf 63 = .ok (.aload_n 0, 1) := by decide +kernel
theorem dX7_valueOf_64 : decode cX7_valueOf 64 = .ok (.getfield 54, 3) := by decide +kernel
theorem dX7_valueOf_67 : decode cX7_valueOf 67 = .ok (.iload 4, 2) := by decide +kernel
theorem dX7_valueOf_69 : decode cX7_valueOf 69 = .ok (.iload 6, 2) := by decide +kernel
theorem dX7_valueOf_71 : decode cX7_valueOf 71 = .ok (.sipush 10000, 3) := by decide +kernel
theorem dX7_valueOf_74 : decode cX7_valueOf 74 = .ok (.if_icmp .ge 8, 3) := by decide +kernel
theorem dX7_valueOf_77 : decode cX7_valueOf 77 = .ok (.iload 6, 2) := by decide +kernel
theorem dX7_valueOf_79 : decode cX7_valueOf 79 = .ok (.goto 12, 3) := by decide +kernel
theorem dX7_valueOf_82 : decode cX7_valueOf 82 = .ok (.aload_n 0, 1) := by decide +kernel
theorem dX7_valueOf_83 : decode cX7_valueOf 83 = .ok (.iload 6, 2) := by decide +kernel
theorem dX7_valueOf_85 : decode cX7_valueOf 85 = .ok (.iload_n 1, 1) := by decide +kernel
theorem dX7_valueOf_86 : decode cX7_valueOf 86 = .ok (.aload_n 2, 1) := by decide +kernel
theorem dX7_valueOf_87 : decode cX7_valueOf 87 = .ok (.aload_n 3, 1) := by decide +kernel
theorem dX7_valueOf_88 : decode cX7_valueOf 88 = .ok (.invokevirtual 88, 3) := by decide +kernel
theorem dX7_valueOf_91 : decode cX7_valueOf 91 = .ok (.iastore, 1) := by decide +kernel
theorem dX7_valueOf_92 : decode cX7_valueOf 92 = .ok (.iinc 4 1, 3) := by decide +kernel
theorem dX7_valueOf_95 : decode cX7_valueOf 95 = .ok (.goto 84, 3) := by decide +kernel
theorem dX7_valueOf_98 : decode cX7_valueOf 98 = .ok (.iload 6, 2) := by decide +kernel
theorem dX7_valueOf_100 : decode cX7_valueOf 100 = .ok (.sipush 20003, 3) := by decide +kernel
theorem dX7_valueOf_103 : decode cX7_valueOf 103 = .ok (.if_icmp .ne 37, 3) := by decide +kernel
theorem dX7_valueOf_106 : decode cX7_valueOf 106 = .ok (.iload 4, 2) := by decide +kernel
theorem dX7_valueOf_108 : decode cX7_valueOf 108 = .ok (.ifCond .le 71, 3) := by decide +kernel
theorem dX7_valueOf_111 : decode cX7_valueOf 111 = .ok (.aload_n 0, 1) := by decide +kernel
theorem dX7_valueOf_112 : decode cX7_valueOf 112 = .ok (.getfield 54, 3) := by decide +kernel
theorem dX7_valueOf_115 : decode cX7_valueOf 115 = .ok (.iload 4, 2) := by decide +kernel
theorem dX7_valueOf_117 : decode cX7_valueOf 117 = .ok (.iconst 1, 1) := by decide +kernel
theorem dX7_valueOf_118 : decode cX7_valueOf 118 = .ok (.isub, 1) := by decide +kernel
theorem dX7_valueOf_119 : decode cX7_valueOf 119 = .ok (.aload_n 0, 1) := by decide +kernel
theorem dX7_valueOf_120 : decode cX7_valueOf 120 = .ok (.getfield 54, 3) := by decide +kernel
theorem dX7_valueOf_123 : decode cX7_valueOf 123 = .ok (.iload 4, 2) := by decide +kernel
theorem dX7_valueOf_125 : decode cX7_valueOf 125 = .ok (.iconst 1, 1) := by decide +kernel
theorem dX7_valueOf_126 : decode cX7_valueOf 126 = .ok (.isub, 1) := by decide +kernel
theorem dX7_valueOf_127 : decode cX7_valueOf 127 = .ok (.iaload, 1) := by decide +kernel
theorem dX7_valueOf_128 : decode cX7_valueOf 128 = .ok (.ifCond .ne 7, 3) := by decide +kernel
theorem dX7_valueOf_131 : decode cX7_valueOf 131 = .ok (.iconst 1, 1) := by decide +kernel
theorem dX7_valueOf_132 : decode cX7_valueOf 132 = .ok (.goto 4, 3) := by decide +kernel
theorem dX7_valueOf_135 : decode cX7_valueOf 135 = .ok (.iconst 0, 1) := by decide +kernel
theorem dX7_valueOf_136 : decode cX7_valueOf 136 = .ok (.iastore, 1) := by decide +kernel
theorem dX7_valueOf_137 : decode cX7_valueOf 137 = .ok (.goto 42, 3) := by decide +kernel
theorem dX7_valueOf_140 : decode cX7_valueOf 140 = .ok (.iload 4, 2) := by decide +kernel
theorem dX7_valueOf_142 : decode cX7_valueOf 142 = .ok (.iconst 1, 1) := by decide +kernel
theorem dX7_valueOf_143 : decode cX7_valueOf 143 = .ok (.if_icmp .le 36, 3) := by decide +kernel
theorem dX7_valueOf_146 : decode cX7_valueOf 146 = .ok (.iinc 4 (-1), 3) := by decide +kernel
theorem dX7_valueOf_149 : decode cX7_valueOf 149 = .ok (.aload_n 0, 1) := by decide +kernel
theorem dX7_valueOf_150 : decode cX7_valueOf 150 = .ok (.getfield 54, 3) := by decide +kernel
theorem dX7_valueOf_153 : decode cX7_valueOf 153 = .ok (.iload 4, 2) := by decide +kernel
theorem dX7_valueOf_155 : decode cX7_valueOf 155 = .ok (.iconst 1, 1) := by decide +kernel
theorem dX7_valueOf_156 : decode cX7_valueOf 156 = .ok (.isub, 1) := by decide +kernel
theorem dX7_valueOf_157 : decode cX7_valueOf 157 = .ok (.iload 6, 2) := by decide +kernel
theorem dX7_valueOf_159 : decode cX7_valueOf 159 = .ok (.aload_n 0, 1) := by decide +kernel
theorem dX7_valueOf_160 : decode cX7_valueOf 160 = .ok (.getfield 54, 3) := by decide +kernel
theorem dX7_valueOf_163 : decode cX7_valueOf 163 = .ok (.iload 4, 2) := by decide +kernel
theorem dX7_valueOf_165 : decode cX7_valueOf 165 = .ok (.iconst 1, 1) := by decide +kernel
theorem dX7_valueOf_166 : decode cX7_valueOf 166 = .ok (.isub, 1) := by decide +kernel
theorem dX7_valueOf_167 : decode cX7_valueOf 167 = .ok (.iaload, 1) := by decide +kernel
theorem dX7_valueOf_168 : decode cX7_valueOf 168 = .ok (.aload_n 0, 1) := by decide +kernel
theorem dX7_valueOf_169 : decode cX7_valueOf 169 = .ok (.getfield 54, 3) := by decide +kernel
theorem dX7_valueOf_172 : decode cX7_valueOf 172 = .ok (.iload 4, 2) := by decide +kernel
theorem dX7_valueOf_174 : decode cX7_valueOf 174 = .ok (.iaload, 1) := by decide +kernel
theorem dX7_valueOf_175 : decode cX7_valueOf 175 = .ok (.invokestatic 92, 3) := by decide +kernel
theorem dX7_valueOf_178 : decode cX7_valueOf 178 = .ok (.iastore, 1) := by decide +kernel
theorem dX7_valueOf_179 : decode cX7_valueOf 179 = .ok (.iinc 5 1, 3) := by decide +kernel
theorem dX7_valueOf_182 : decode cX7_valueOf 182 = .ok (.goto (-157), 3) := by decide +kernel
theorem dX7_valueOf_185 : decode cX7_valueOf 185 = .ok (.iload 4, 2) := by decide +kernel
theorem dX7_valueOf_187 : decode cX7_valueOf 187 = .ok (.ifCond .le 12, 3) := by decide +kernel
theorem dX7_valueOf_190 : decode cX7_valueOf 190 = .ok (.aload_n 0, 1) := by decide +kernel
theorem dX7_valueOf_191 : decode cX7_valueOf 191 = .ok (.getfield 54, 3) := by decide +kernel
theorem dX7_valueOf_194 : decode cX7_valueOf 194 = .ok (.iconst 0, 1) := by decide +kernel
theorem dX7_valueOf_195 : decode cX7_valueOf 195 = .ok (.iaload, 1) := by decide +kernel
theorem dX7_valueOf_196 : decode cX7_valueOf 196 = .ok (.goto 4, 3) := by decide +kernel
theorem dX7_valueOf_199 : decode cX7_valueOf 199 = .ok (.iconst 0, 1) := by decide +kernel
theorem dX7_valueOf_200 : decode cX7_valueOf 200 = .ok (.ireturn, 1) := by decide +kernel

set_option maxHeartbeats 4000000 in
set_option maxRecDepth 100000 in
theorem w_X7_valueOf (b q l h H t : Nat) {n : Nat} {kd : mK} {I : mI} {J : mJ} {P : mP} (hS : kS kd P b) (hL : kL kd P l) (hq : kd q = some (1, 8)) (hq8 : q ≠ b + 8) (hl1 : l + 1 ≠ b + 8) (hl2 : l + 2 ≠ b + 8) (hh : h < H) (hH8 : H ≤ 8) (hH : I b 0 = nI H) (ht : I (b + 4) h = nI t) (ht2 : t ≤ 520) : ∀ (rest : List Nat) {st : List Int32} {R : Nat → Int32} {i : Nat} {x6 : Option Value}, sr R st → i + rest.length = t → (∀ j, (hj : j < rest.length) → I (b + 2) (i + j) = nI rest[j]) → okd rest st.length → (∀ c ∈ rest, c < 20012) → st.length ≤ 40 → Ru yX7_valueOf.cls cX7_valueOf 7 (some .int) yX7_valueOf.name 2 (am_sc (some (.int (lastI (evs (opdS I b q l h H) rest st)))) (b + 8) n kd I J P) 0 0 25 [some (.ref b), some (.int (nI h)), some (.ref q), some (.ref l), some (.int (nI st.length)), some (.int (nI i)), x6] [] n kd (va_up I (b + 8) R) J P := by
  obtain ⟨s0, s1, s2, s3, s4, s5, s6, s7, s8, s9, p4, p5, p7, p8, p9, p11, p12, p13, p14⟩ := hS
  obtain ⟨l0, l1, l2, l3, l4, l5, q0, q1, q3, q5, q6⟩ := hL
  intro rest
  induction rest with
  | nil =>
    intro st R i x6 hsr hi hco hok hlt h40
    simp only [List.length_nil, Nat.add_zero] at hi
    have hne : st ≠ [] := by intro e; subst e; exact absurd hok (by simp [okd])
    have hpos : 0 < st.length := List.length_pos_iff.mpr hne
    rw [evs]
    refine r_iload dX7_valueOf_25 rfl ?_
    refine r_aload_n dX7_valueOf_27 rfl ?_
    refine r_getR dX7_valueOf_28 fl_X7_38 rfl (by assumption) (by assumption) ?_
    refine r_iload_n dX7_valueOf_31 rfl ?_
    refine r_iald dX7_valueOf_32 s4 (nI_in8 8 (by omega) (by decide)) (nI_clamp (by omega)) ?_
    rw [am_up_n I R (by omega : b + 4 ≠ b + 8), ht]
    refine r_icmp_ge (tgt := 185) dX7_valueOf_33 (by decide) (fun _ => ?_) (fun hz => absurd (show _ from (by rw [nI_leI (by omega) (by omega)]; omega)) hz)
    refine r_iload dX7_valueOf_185 rfl ?_
    refine r_if_le (tgt := 199) dX7_valueOf_187 (by decide) (fun hz => absurd hz (show ¬ _ from (by rw [z_le (by omega)]; omega))) (fun _ => ?_)
    refine r_aload_n dX7_valueOf_190 rfl ?_
    refine r_getR dX7_valueOf_191 fl_X7_54 rfl (by assumption) (by assumption) ?_
    refine r_iconst (v := nI 0) dX7_valueOf_194 (by decide) ?_
    refine r_iald dX7_valueOf_195 s8 (nI_in8 40 (by decide) (by decide)) (nI_clamp (by decide)) ?_
    rw [am_up_s I]
    refine r_goto (tgt := 200) dX7_valueOf_196 (by decide) ?_
    refine r_iret rfl dX7_valueOf_200 ?_
    exact ⟨R, by rw [sr_0 hne hsr], rfl, rfl, rfl, rfl, rfl⟩
  | cons c rest ih =>
    intro st R i x6 hsr hi hco hok hlt h40
    have hi2 : i + (rest.length + 1) = t := by simpa using hi
    have hc0 : I (b + 2) i = nI c := hco 0 (Nat.succ_pos _)
    have hcl : c < 20012 := hlt c List.mem_cons_self
    by_cases ha : c < 20003
    · have hd40 : st.length < 40 := by have := hok.1; rwa [if_pos ha] at this
      by_cases hb : c < 10000
      · skip
        refine r_iload dX7_valueOf_25 rfl ?_
        refine r_aload_n dX7_valueOf_27 rfl ?_
        refine r_getR dX7_valueOf_28 fl_X7_38 rfl (by assumption) (by assumption) ?_
        refine r_iload_n dX7_valueOf_31 rfl ?_
        refine r_iald dX7_valueOf_32 s4 (nI_in8 8 (by omega) (by decide)) (nI_clamp (by omega)) ?_
        rw [am_up_n I R (by omega : b + 4 ≠ b + 8), ht]
        refine r_icmp_ge (tgt := 185) dX7_valueOf_33 (by decide) (fun hz => absurd hz (show ¬ _ from (by rw [nI_leI (by omega) (by omega)]; omega))) (fun _ => ?_)
        refine r_aload_n dX7_valueOf_36 rfl ?_
        refine r_getR dX7_valueOf_37 fl_X7_29 rfl (by assumption) (by assumption) ?_
        refine r_iload dX7_valueOf_40 rfl ?_
        refine r_iald dX7_valueOf_42 s2 (nI_in8 520 (by omega) (by decide)) (nI_clamp (by omega)) ?_
        rw [am_up_n I R (by omega : b + 2 ≠ b + 8), hc0]
        refine r_istore dX7_valueOf_43 (by decide) ?_
        refine r_iload dX7_valueOf_45 rfl ?_
        refine r_sipush (v := nI 20003) dX7_valueOf_47 (by decide) ?_
        refine r_icmp_ge (tgt := 98) dX7_valueOf_50 (by decide) (fun hz => absurd hz (show ¬ _ from (by rw [nI_leI (by omega) (by omega)]; omega))) (fun _ => ?_)
        refine r_iload dX7_valueOf_53 rfl ?_
        refine r_aload_n dX7_valueOf_55 rfl ?_
        refine r_getR dX7_valueOf_56 fl_X7_54 rfl (by assumption) (by assumption) ?_
        refine r_alen dX7_valueOf_59 (by assumption) (by decide) ?_
        refine r_icmp_ge (tgt := 179) dX7_valueOf_60 (by decide) (fun hz => absurd hz (show ¬ _ from (by rw [nI_leI (by omega) (by omega)]; omega))) (fun _ => ?_)
        refine r_aload_n dX7_valueOf_63 rfl ?_
        refine r_getR dX7_valueOf_64 fl_X7_54 rfl (by assumption) (by assumption) ?_
        refine r_iload dX7_valueOf_67 rfl ?_
        refine r_iload dX7_valueOf_69 rfl ?_
        refine r_sipush (v := nI 10000) dX7_valueOf_71 (by decide) ?_
        refine r_icmp_ge (tgt := 82) dX7_valueOf_74 (by decide) (fun hz => absurd hz (show ¬ _ from (by rw [nI_leI (by omega) (by omega)]; omega))) (fun _ => ?_)
        refine r_iload dX7_valueOf_77 rfl ?_
        refine r_goto (tgt := 91) dX7_valueOf_79 (by decide) ?_
        refine r_iast dX7_valueOf_91 s8 (nI_in8 40 (by omega) (by decide)) (nI_clamp (by omega)) ?_
        refine r_iinc (v := nI (st.length + 1)) dX7_valueOf_92 rfl (nI_inc st.length) ?_
        refine r_goto (tgt := 179) dX7_valueOf_95 (by decide) ?_
        refine r_iinc (v := nI (i + 1)) dX7_valueOf_179 rfl (nI_inc i) ?_
        refine r_goto (tgt := 25) dX7_valueOf_182 (by decide) ?_
        rw [evs, show ev1 (opdS I b q l h H) c st = nI c :: st by unfold ev1; rw [if_pos ha, if_pos hb]]
        rw [am_up_s I, am_up_up I]
        have hgo := ih (i := i + 1) (R := va_up R st.length (nI c)) (x6 := some (.int (nI c))) (st := nI c :: st) (sr_push _ hsr) (by simp at hi ⊢; omega) (fun j hj => by have := hco (j + 1) (by simpa using hj); simpa [Nat.add_assoc, Nat.add_comm 1 j] using this) (by have := hok.2; rwa [show dep1 c st.length = st.length + 1 by unfold dep1; rw [if_pos ha]] at this) (fun z hz => hlt z (List.mem_cons_of_mem _ hz)) (by simp; omega)
        exact hgo
      · skip
        refine r_iload dX7_valueOf_25 rfl ?_
        refine r_aload_n dX7_valueOf_27 rfl ?_
        refine r_getR dX7_valueOf_28 fl_X7_38 rfl (by assumption) (by assumption) ?_
        refine r_iload_n dX7_valueOf_31 rfl ?_
        refine r_iald dX7_valueOf_32 s4 (nI_in8 8 (by omega) (by decide)) (nI_clamp (by omega)) ?_
        rw [am_up_n I R (by omega : b + 4 ≠ b + 8), ht]
        refine r_icmp_ge (tgt := 185) dX7_valueOf_33 (by decide) (fun hz => absurd hz (show ¬ _ from (by rw [nI_leI (by omega) (by omega)]; omega))) (fun _ => ?_)
        refine r_aload_n dX7_valueOf_36 rfl ?_
        refine r_getR dX7_valueOf_37 fl_X7_29 rfl (by assumption) (by assumption) ?_
        refine r_iload dX7_valueOf_40 rfl ?_
        refine r_iald dX7_valueOf_42 s2 (nI_in8 520 (by omega) (by decide)) (nI_clamp (by omega)) ?_
        rw [am_up_n I R (by omega : b + 2 ≠ b + 8), hc0]
        refine r_istore dX7_valueOf_43 (by decide) ?_
        refine r_iload dX7_valueOf_45 rfl ?_
        refine r_sipush (v := nI 20003) dX7_valueOf_47 (by decide) ?_
        refine r_icmp_ge (tgt := 98) dX7_valueOf_50 (by decide) (fun hz => absurd hz (show ¬ _ from (by rw [nI_leI (by omega) (by omega)]; omega))) (fun _ => ?_)
        refine r_iload dX7_valueOf_53 rfl ?_
        refine r_aload_n dX7_valueOf_55 rfl ?_
        refine r_getR dX7_valueOf_56 fl_X7_54 rfl (by assumption) (by assumption) ?_
        refine r_alen dX7_valueOf_59 (by assumption) (by decide) ?_
        refine r_icmp_ge (tgt := 179) dX7_valueOf_60 (by decide) (fun hz => absurd hz (show ¬ _ from (by rw [nI_leI (by omega) (by omega)]; omega))) (fun _ => ?_)
        refine r_aload_n dX7_valueOf_63 rfl ?_
        refine r_getR dX7_valueOf_64 fl_X7_54 rfl (by assumption) (by assumption) ?_
        refine r_iload dX7_valueOf_67 rfl ?_
        refine r_iload dX7_valueOf_69 rfl ?_
        refine r_sipush (v := nI 10000) dX7_valueOf_71 (by decide) ?_
        refine r_icmp_ge (tgt := 82) dX7_valueOf_74 (by decide) (fun _ => ?_) (fun hz => absurd (show _ from (by rw [nI_leI (by omega) (by omega)]; omega)) hz)
        refine r_aload_n dX7_valueOf_82 rfl ?_
        refine r_iload dX7_valueOf_83 rfl ?_
        refine r_iload_n dX7_valueOf_85 rfl ?_
        refine r_aload_n dX7_valueOf_86 rfl ?_
        refine r_aload_n dX7_valueOf_87 rfl ?_
        refine r_virtE (c_X7_operand b q l c h H ⟨s0, s1, s2, s3, s4, s5, s6, s7, s8, s9, p4, p5, p7, p8, p9, p11, p12, p13, p14⟩ ⟨l0, l1, l2, l3, l4, l5, q0, q1, q3, q5, q6⟩ hq (by omega) (by omega) (by omega) (by rw [am_up_n I R (by omega : b ≠ b + 8)]; exact hH) hH8) lk_X7_88 mc_X7_operand dX7_valueOf_88 s0 (by decide) rfl rfl (Nat.le_of_ble_eq_true rfl) ?_
        rw [show (if c < 20000 then (if c - 10000 < H then va_up I (b + 8) R q (c - 10000) else nI 0) else if c = 20002 then va_up I (b + 8) R b 1 else if c = 20000 then va_up I (b + 8) R (l + 1) h else va_up I (b + 8) R (l + 2) h) = opdS I b q l h H c from opdS_up hq8 hl1 hl2 c]
        refine r_iast dX7_valueOf_91 s8 (nI_in8 40 (by omega) (by decide)) (nI_clamp (by omega)) ?_
        refine r_iinc (v := nI (st.length + 1)) dX7_valueOf_92 rfl (nI_inc st.length) ?_
        refine r_goto (tgt := 179) dX7_valueOf_95 (by decide) ?_
        refine r_iinc (v := nI (i + 1)) dX7_valueOf_179 rfl (nI_inc i) ?_
        refine r_goto (tgt := 25) dX7_valueOf_182 (by decide) ?_
        rw [evs, show ev1 (opdS I b q l h H) c st = opdS I b q l h H c :: st by unfold ev1; rw [if_pos ha, if_neg hb]]
        rw [am_up_s I, am_up_up I]
        have hgo := ih (i := i + 1) (R := va_up R st.length (opdS I b q l h H c)) (x6 := some (.int (nI c))) (st := opdS I b q l h H c :: st) (sr_push _ hsr) (by simp at hi ⊢; omega) (fun j hj => by have := hco (j + 1) (by simpa using hj); simpa [Nat.add_assoc, Nat.add_comm 1 j] using this) (by have := hok.2; rwa [show dep1 c st.length = st.length + 1 by unfold dep1; rw [if_pos ha]] at this) (fun z hz => hlt z (List.mem_cons_of_mem _ hz)) (by simp; omega)
        exact hgo
    · by_cases hb : c = 20003
      · have h1 : 1 ≤ st.length := by have := hok.1; rwa [if_neg ha, if_pos hb] at this
        match st, h1, hsr, hok, h40 with
        | x :: r, _, hsr, hok, h40 =>
        by_cases hx : x = 0
        · skip
          refine r_iload dX7_valueOf_25 rfl ?_
          refine r_aload_n dX7_valueOf_27 rfl ?_
          refine r_getR dX7_valueOf_28 fl_X7_38 rfl (by assumption) (by assumption) ?_
          refine r_iload_n dX7_valueOf_31 rfl ?_
          refine r_iald dX7_valueOf_32 s4 (nI_in8 8 (by omega) (by decide)) (nI_clamp (by omega)) ?_
          rw [am_up_n I R (by omega : b + 4 ≠ b + 8), ht]
          refine r_icmp_ge (tgt := 185) dX7_valueOf_33 (by decide) (fun hz => absurd hz (show ¬ _ from (by rw [nI_leI (by omega) (by omega)]; omega))) (fun _ => ?_)
          refine r_aload_n dX7_valueOf_36 rfl ?_
          refine r_getR dX7_valueOf_37 fl_X7_29 rfl (by assumption) (by assumption) ?_
          refine r_iload dX7_valueOf_40 rfl ?_
          refine r_iald dX7_valueOf_42 s2 (nI_in8 520 (by omega) (by decide)) (nI_clamp (by omega)) ?_
          rw [am_up_n I R (by omega : b + 2 ≠ b + 8), hc0]
          refine r_istore dX7_valueOf_43 (by decide) ?_
          refine r_iload dX7_valueOf_45 rfl ?_
          refine r_sipush (v := nI 20003) dX7_valueOf_47 (by decide) ?_
          refine r_icmp_ge (tgt := 98) dX7_valueOf_50 (by decide) (fun _ => ?_) (fun hz => absurd (show _ from (by rw [nI_leI (by omega) (by omega)]; omega)) hz)
          refine r_iload dX7_valueOf_98 rfl ?_
          refine r_sipush (v := nI 20003) dX7_valueOf_100 (by decide) ?_
          refine r_icmp_ne (tgt := 140) dX7_valueOf_103 (by decide) (fun hz => absurd (show _ from (by rw [nI_eq (by omega) (by omega)]; omega)) hz) (fun _ => ?_)
          refine r_iload dX7_valueOf_106 rfl ?_
          refine r_if_le (tgt := 179) dX7_valueOf_108 (by decide) (fun hz => absurd hz (show ¬ _ from (by rw [z_le (by simp at h40 ⊢; omega)]; simp))) (fun _ => ?_)
          refine r_aload_n dX7_valueOf_111 rfl ?_
          refine r_getR dX7_valueOf_112 fl_X7_54 rfl (by assumption) (by assumption) ?_
          refine r_iload dX7_valueOf_115 rfl ?_
          refine r_iconst (v := nI 1) dX7_valueOf_117 (by decide) ?_
          refine r_isub dX7_valueOf_118 ?_
          rw [show nI (x :: r).length - nI 1 = nI r.length from nI_s1 r.length]
          refine r_aload_n dX7_valueOf_119 rfl ?_
          refine r_getR dX7_valueOf_120 fl_X7_54 rfl (by assumption) (by assumption) ?_
          refine r_iload dX7_valueOf_123 rfl ?_
          refine r_iconst (v := nI 1) dX7_valueOf_125 (by decide) ?_
          refine r_isub dX7_valueOf_126 ?_
          rw [show nI (x :: r).length - nI 1 = nI r.length from nI_s1 r.length]
          refine r_iald dX7_valueOf_127 s8 (nI_in8 40 (by simp at h40; omega) (by decide)) (nI_clamp (by simp at h40; omega)) ?_
          rw [am_up_s I, hsr.1]
          refine r_if_ne (tgt := 135) dX7_valueOf_128 (by decide) (fun hz => absurd (show _ from hx) hz) (fun _ => ?_)
          refine r_iconst (v := nI 1) dX7_valueOf_131 (by decide) ?_
          refine r_goto (tgt := 136) dX7_valueOf_132 (by decide) ?_
          refine r_iast dX7_valueOf_136 s8 (nI_in8 40 (by simp at h40; omega) (by decide)) (nI_clamp (by simp at h40; omega)) ?_
          refine r_goto (tgt := 179) dX7_valueOf_137 (by decide) ?_
          refine r_iinc (v := nI (i + 1)) dX7_valueOf_179 rfl (nI_inc i) ?_
          refine r_goto (tgt := 25) dX7_valueOf_182 (by decide) ?_
          rw [evs, show ev1 (opdS I b q l h H) c (x :: r) = nI 1 :: r by unfold ev1; rw [if_neg ha, if_pos hb]; simp [hx]]
          rw [am_up_s I, am_up_up I]
          have hgo := ih (i := i + 1) (R := va_up R r.length (nI 1)) (x6 := some (.int (nI c))) (st := nI 1 :: r) (sr_push _ hsr.2) (by simp at hi ⊢; omega) (fun j hj => by have := hco (j + 1) (by simpa using hj); simpa [Nat.add_assoc, Nat.add_comm 1 j] using this) (by have := hok.2; rwa [show dep1 c (x :: r).length = r.length + 1 by unfold dep1; rw [if_neg ha, if_pos hb]; rfl] at this) (fun z hz => hlt z (List.mem_cons_of_mem _ hz)) h40
          exact hgo
        · skip
          refine r_iload dX7_valueOf_25 rfl ?_
          refine r_aload_n dX7_valueOf_27 rfl ?_
          refine r_getR dX7_valueOf_28 fl_X7_38 rfl (by assumption) (by assumption) ?_
          refine r_iload_n dX7_valueOf_31 rfl ?_
          refine r_iald dX7_valueOf_32 s4 (nI_in8 8 (by omega) (by decide)) (nI_clamp (by omega)) ?_
          rw [am_up_n I R (by omega : b + 4 ≠ b + 8), ht]
          refine r_icmp_ge (tgt := 185) dX7_valueOf_33 (by decide) (fun hz => absurd hz (show ¬ _ from (by rw [nI_leI (by omega) (by omega)]; omega))) (fun _ => ?_)
          refine r_aload_n dX7_valueOf_36 rfl ?_
          refine r_getR dX7_valueOf_37 fl_X7_29 rfl (by assumption) (by assumption) ?_
          refine r_iload dX7_valueOf_40 rfl ?_
          refine r_iald dX7_valueOf_42 s2 (nI_in8 520 (by omega) (by decide)) (nI_clamp (by omega)) ?_
          rw [am_up_n I R (by omega : b + 2 ≠ b + 8), hc0]
          refine r_istore dX7_valueOf_43 (by decide) ?_
          refine r_iload dX7_valueOf_45 rfl ?_
          refine r_sipush (v := nI 20003) dX7_valueOf_47 (by decide) ?_
          refine r_icmp_ge (tgt := 98) dX7_valueOf_50 (by decide) (fun _ => ?_) (fun hz => absurd (show _ from (by rw [nI_leI (by omega) (by omega)]; omega)) hz)
          refine r_iload dX7_valueOf_98 rfl ?_
          refine r_sipush (v := nI 20003) dX7_valueOf_100 (by decide) ?_
          refine r_icmp_ne (tgt := 140) dX7_valueOf_103 (by decide) (fun hz => absurd (show _ from (by rw [nI_eq (by omega) (by omega)]; omega)) hz) (fun _ => ?_)
          refine r_iload dX7_valueOf_106 rfl ?_
          refine r_if_le (tgt := 179) dX7_valueOf_108 (by decide) (fun hz => absurd hz (show ¬ _ from (by rw [z_le (by simp at h40 ⊢; omega)]; simp))) (fun _ => ?_)
          refine r_aload_n dX7_valueOf_111 rfl ?_
          refine r_getR dX7_valueOf_112 fl_X7_54 rfl (by assumption) (by assumption) ?_
          refine r_iload dX7_valueOf_115 rfl ?_
          refine r_iconst (v := nI 1) dX7_valueOf_117 (by decide) ?_
          refine r_isub dX7_valueOf_118 ?_
          rw [show nI (x :: r).length - nI 1 = nI r.length from nI_s1 r.length]
          refine r_aload_n dX7_valueOf_119 rfl ?_
          refine r_getR dX7_valueOf_120 fl_X7_54 rfl (by assumption) (by assumption) ?_
          refine r_iload dX7_valueOf_123 rfl ?_
          refine r_iconst (v := nI 1) dX7_valueOf_125 (by decide) ?_
          refine r_isub dX7_valueOf_126 ?_
          rw [show nI (x :: r).length - nI 1 = nI r.length from nI_s1 r.length]
          refine r_iald dX7_valueOf_127 s8 (nI_in8 40 (by simp at h40; omega) (by decide)) (nI_clamp (by simp at h40; omega)) ?_
          rw [am_up_s I, hsr.1]
          refine r_if_ne (tgt := 135) dX7_valueOf_128 (by decide) (fun _ => ?_) (fun hz => absurd hz (show ¬ _ from hx))
          refine r_iconst (v := nI 0) dX7_valueOf_135 (by decide) ?_
          refine r_iast dX7_valueOf_136 s8 (nI_in8 40 (by simp at h40; omega) (by decide)) (nI_clamp (by simp at h40; omega)) ?_
          refine r_goto (tgt := 179) dX7_valueOf_137 (by decide) ?_
          refine r_iinc (v := nI (i + 1)) dX7_valueOf_179 rfl (nI_inc i) ?_
          refine r_goto (tgt := 25) dX7_valueOf_182 (by decide) ?_
          rw [evs, show ev1 (opdS I b q l h H) c (x :: r) = nI 0 :: r by unfold ev1; rw [if_neg ha, if_pos hb]; simp [hx]]
          rw [am_up_s I, am_up_up I]
          have hgo := ih (i := i + 1) (R := va_up R r.length (nI 0)) (x6 := some (.int (nI c))) (st := nI 0 :: r) (sr_push _ hsr.2) (by simp at hi ⊢; omega) (fun j hj => by have := hco (j + 1) (by simpa using hj); simpa [Nat.add_assoc, Nat.add_comm 1 j] using this) (by have := hok.2; rwa [show dep1 c (x :: r).length = r.length + 1 by unfold dep1; rw [if_neg ha, if_pos hb]; rfl] at this) (fun z hz => hlt z (List.mem_cons_of_mem _ hz)) h40
          exact hgo
      · have h1 : 2 ≤ st.length := by have := hok.1; rw [if_neg ha, if_neg hb] at this; exact this.1
        match st, h1, hsr, hok, h40 with
        | y :: x :: r, _, hsr, hok, h40 =>
        refine r_iload dX7_valueOf_25 rfl ?_
        refine r_aload_n dX7_valueOf_27 rfl ?_
        refine r_getR dX7_valueOf_28 fl_X7_38 rfl (by assumption) (by assumption) ?_
        refine r_iload_n dX7_valueOf_31 rfl ?_
        refine r_iald dX7_valueOf_32 s4 (nI_in8 8 (by omega) (by decide)) (nI_clamp (by omega)) ?_
        rw [am_up_n I R (by omega : b + 4 ≠ b + 8), ht]
        refine r_icmp_ge (tgt := 185) dX7_valueOf_33 (by decide) (fun hz => absurd hz (show ¬ _ from (by rw [nI_leI (by omega) (by omega)]; omega))) (fun _ => ?_)
        refine r_aload_n dX7_valueOf_36 rfl ?_
        refine r_getR dX7_valueOf_37 fl_X7_29 rfl (by assumption) (by assumption) ?_
        refine r_iload dX7_valueOf_40 rfl ?_
        refine r_iald dX7_valueOf_42 s2 (nI_in8 520 (by omega) (by decide)) (nI_clamp (by omega)) ?_
        rw [am_up_n I R (by omega : b + 2 ≠ b + 8), hc0]
        refine r_istore dX7_valueOf_43 (by decide) ?_
        refine r_iload dX7_valueOf_45 rfl ?_
        refine r_sipush (v := nI 20003) dX7_valueOf_47 (by decide) ?_
        refine r_icmp_ge (tgt := 98) dX7_valueOf_50 (by decide) (fun _ => ?_) (fun hz => absurd (show _ from (by rw [nI_leI (by omega) (by omega)]; omega)) hz)
        refine r_iload dX7_valueOf_98 rfl ?_
        refine r_sipush (v := nI 20003) dX7_valueOf_100 (by decide) ?_
        refine r_icmp_ne (tgt := 140) dX7_valueOf_103 (by decide) (fun _ => ?_) (fun hz => absurd hz (show ¬ _ from (by rw [nI_eq (by omega) (by omega)]; omega)))
        refine r_iload dX7_valueOf_140 rfl ?_
        refine r_iconst (v := nI 1) dX7_valueOf_142 (by decide) ?_
        refine r_icmp_le (tgt := 179) dX7_valueOf_143 (by decide) (fun hz => absurd hz (show ¬ _ from (by rw [nI_leI (by simp at h40 ⊢; omega) (by omega)]; simp))) (fun _ => ?_)
        refine r_iinc (v := nI (r.length + 1)) dX7_valueOf_146 rfl (nI_dec (r.length + 1)) ?_
        refine r_aload_n dX7_valueOf_149 rfl ?_
        refine r_getR dX7_valueOf_150 fl_X7_54 rfl (by assumption) (by assumption) ?_
        refine r_iload dX7_valueOf_153 rfl ?_
        refine r_iconst (v := nI 1) dX7_valueOf_155 (by decide) ?_
        refine r_isub dX7_valueOf_156 ?_
        rw [show nI (r.length + 1) - nI 1 = nI r.length from nI_s1 r.length]
        refine r_iload dX7_valueOf_157 rfl ?_
        refine r_aload_n dX7_valueOf_159 rfl ?_
        refine r_getR dX7_valueOf_160 fl_X7_54 rfl (by assumption) (by assumption) ?_
        refine r_iload dX7_valueOf_163 rfl ?_
        refine r_iconst (v := nI 1) dX7_valueOf_165 (by decide) ?_
        refine r_isub dX7_valueOf_166 ?_
        rw [show nI (r.length + 1) - nI 1 = nI r.length from nI_s1 r.length]
        refine r_iald dX7_valueOf_167 s8 (nI_in8 40 (by simp at h40; omega) (by decide)) (nI_clamp (by simp at h40; omega)) ?_
        rw [am_up_s I, hsr.2.1]
        refine r_aload_n dX7_valueOf_168 rfl ?_
        refine r_getR dX7_valueOf_169 fl_X7_54 rfl (by assumption) (by assumption) ?_
        refine r_iload dX7_valueOf_172 rfl ?_
        refine r_iald dX7_valueOf_174 s8 (nI_in8 40 (by simp at h40; omega) (by decide)) (nI_clamp (by simp at h40; omega)) ?_
        rw [am_up_s I, show R (r.length + 1) = y from hsr.1]
        refine r_statE (c_X7_joined (nI c) x y) lk_X7_92 mc_X7_joined dX7_valueOf_175 (by decide) rfl rfl (Nat.le_of_ble_eq_true rfl) ?_
        refine r_iast dX7_valueOf_178 s8 (nI_in8 40 (by simp at h40; omega) (by decide)) (nI_clamp (by simp at h40; omega)) ?_
        refine r_iinc (v := nI (i + 1)) dX7_valueOf_179 rfl (nI_inc i) ?_
        refine r_goto (tgt := 25) dX7_valueOf_182 (by decide) ?_
        rw [evs, show ev1 (opdS I b q l h H) c (y :: x :: r) = jn (nI c) x y :: r by unfold ev1; rw [if_neg ha, if_neg hb]]
        rw [am_up_s I, am_up_up I]
        have hgo := ih (i := i + 1) (R := va_up R r.length (jn (nI c) x y)) (x6 := some (.int (nI c))) (st := jn (nI c) x y :: r) (sr_push _ hsr.2.2) (by simp at hi ⊢; omega) (fun j hj => by have := hco (j + 1) (by simpa using hj); simpa [Nat.add_assoc, Nat.add_comm 1 j] using this) (by have := hok.2; rwa [show dep1 c (y :: x :: r).length = r.length + 1 by unfold dep1; rw [if_neg ha, if_neg hb]; rfl] at this) (fun z hz => hlt z (List.mem_cons_of_mem _ hz)) (by simp at h40 ⊢; omega)
        exact hgo

set_option maxHeartbeats 4000000 in
set_option maxRecDepth 100000 in
/-- Street.valueOf: the riddle of house h, its codes being cs -/
theorem c_X7_valueOf (b q l h H f t : Nat) (cs : List Nat) {n : Nat} {kd : mK} {I : mI} {J : mJ} {P : mP} (hS : kS kd P b) (hL : kL kd P l) (hq : kd q = some (1, 8)) (hq8 : q ≠ b + 8) (hl1 : l + 1 ≠ b + 8) (hl2 : l + 2 ≠ b + 8) (hh : h < H) (hH8 : H ≤ 8) (hH : I b 0 = nI H) (ht : I (b + 4) h = nI t) (ht2 : t ≤ 520) (hf : I (b + 3) h = nI f) (hlen : f + cs.length = t) (hco : ∀ j, (hj : j < cs.length) → I (b + 2) (f + j) = nI cs[j]) (hok : okd cs 0) (hlt : ∀ c ∈ cs, c < 20012) : Ct yX7_valueOf cX7_valueOf 7 (some .int) 2 0 0 [.ref b, .int (nI h), .ref q, .ref l] n kd I J P (am_sc (some (.int (lastI (evs (opdS I b q l h H) cs [])))) (b + 8) n kd I J P) := by
  have hS0 := hS
  obtain ⟨s0, s1, s2, s3, s4, s5, s6, s7, s8, s9, p4, p5, p7, p8, p9, p11, p12, p13, p14⟩ := hS
  refine ct_of 3 (by decide +kernel) (Nat.le_of_ble_eq_true rfl) rfl ?_
  refine r_iload_n dX7_valueOf_0 rfl ?_
  refine r_if_lt (tgt := 12) dX7_valueOf_1 (by decide) (fun hz => absurd hz (show ¬ _ from (z_nlt (by omega)))) (fun _ => ?_)
  refine r_iload_n dX7_valueOf_4 rfl ?_
  refine r_aload_n dX7_valueOf_5 rfl ?_
  refine r_getI dX7_valueOf_6 fl_X7_9 rfl (by assumption) ?_
  rw [hH]
  refine r_icmp_lt (tgt := 14) dX7_valueOf_9 (by decide) (fun _ => ?_) (fun hz => absurd (show _ from (by rw [nI_ltI (by omega) (by omega)]; omega)) hz)
  refine r_iconst (v := nI 0) dX7_valueOf_14 (by decide) ?_
  refine r_istore dX7_valueOf_15 (by decide) ?_
  refine r_aload_n dX7_valueOf_17 rfl ?_
  refine r_getR dX7_valueOf_18 fl_X7_35 rfl (by assumption) (by assumption) ?_
  refine r_iload_n dX7_valueOf_21 rfl ?_
  refine r_iald dX7_valueOf_22 s3 (nI_in8 8 (by omega) (by decide)) (nI_clamp (by omega)) ?_
  rw [hf]
  refine r_istore dX7_valueOf_23 (by decide) ?_
  have hw := w_X7_valueOf b q l h H t (n := n) (kd := kd) (I := I) (J := J) (P := P) hS0 hL hq hq8 hl1 hl2 hh hH8 hH ht ht2 cs (st := []) (R := I (b + 8)) (i := f) (x6 := none) trivial hlen hco hok hlt (by simp)
  rw [am_up_id] at hw
  exact hw

