/-! STREET: the reference's next token, whole -/
theorem srt_lt (k : Int32) : srt k < 5 := by
  unfold srt
  by_cases a : k = nI 0
  · rw [if_pos a]; decide
  · rw [if_neg a]
    by_cases b : k = nI 2
    · rw [if_pos b]; decide
    · rw [if_neg b]
      by_cases c : k = nI 1
      · rw [if_pos c]; decide
      · rw [if_neg c]
        by_cases d : k < nI 128
        · rw [if_pos d]; decide
        · rw [if_neg d]; decide
theorem gTk.mk0 {m b e : Nat} {X : Nat → Int32} {I : mI} {J : mJ} {k : Int32} (h1 : ¬ srt k = 1) (h2 : ¬ k = nI 2) (hk : kwI k = -1) (h20 : I m 20 = nI e) (h22 : I m 22 = nI b) (h21 : I m 21 = nI (srt k)) (h25 : srt k = 3 → I m 25 = k) : gTk m X (va_up I m (va_up (I m) 23 (nI (e - b)))) J (k, b, e) := by
  refine ⟨?_, ?_, ?_, ?_, fun q => absurd q h2, fun q => ?_⟩
  · rw [am_up_s, am_up_n _ _ (by decide)]; exact h20
  · rw [am_up_s, am_up_n _ _ (by decide)]; exact h22
  · unfold kwV
    rw [am_up_s, am_up_n _ _ (by decide), h21, if_neg (fun q => h1 ((nI_eq (Nat.lt_trans (srt_lt k) (by decide)) (by decide)).mp q.1))]
    exact hk.symm
  · rw [am_up_s, am_up_n _ _ (by decide)]; exact h21
  · rw [am_up_s, am_up_n _ _ (by decide)]; exact h25 q
theorem gTk.mkN {m b e : Nat} {X : Nat → Int32} {I : mI} {J : mJ} (h20 : I m 20 = nI e) (h22 : I m 22 = nI b) (h21 : I m 21 = nI 2) (h24 : I m 24 = nv X b (min (e - b) 4)) : gTk m X (va_up I m (va_up (I m) 23 (nI (e - b)))) J (nI 2, b, e) := by
  refine ⟨?_, ?_, ?_, ?_, fun q => ⟨?_, fun hl => ?_⟩, fun q => ?_⟩
  · rw [am_up_s, am_up_n _ _ (by decide)]; exact h20
  · rw [am_up_s, am_up_n _ _ (by decide)]; exact h22
  · unfold kwV
    rw [am_up_s, am_up_n _ _ (by decide), h21, if_neg (fun q => absurd q.1 (by decide))]
    show -1 = kwI (nI 2)
    decide
  · rw [am_up_s, am_up_n _ _ (by decide)]; exact h21
  · rw [am_up_s, am_up_s]
  · have hl : e - b ≤ 4 := hl
    rw [am_up_s, am_up_n _ _ (by decide), h24, Nat.min_eq_left hl]
  · exact absurd q (by show ¬ srt (nI 2) = 3; decide)
theorem srt_w {k : Int32} (h : ¬ k < nI 128) (h0 : ¬ k = nI 0) : srt k = 1 := by
  unfold srt
  rw [if_neg h0, if_neg (fun q => h (by rw [q]; decide)), if_neg (fun q => h (by rw [q]; decide)), if_neg h]
theorem gTk.mkW {m b e : Nat} {X : Nat → Int32} {I : mI} {J : mJ} (hbe : b ≤ e) (he : e ≤ 500) (hL : ∀ j, b ≤ j → j < e → isL (X j) = true) (h20 : I m 20 = nI e) (h22 : I m 22 = nI b) (h21 : I m 21 = nI 1) (h26 : J m 26 = jN (pkN X b (min (e - b) 6))) : gTk m X (va_up I m (va_up (I m) 23 (nI (e - b)))) J (kow X b e, b, e) := by
  obtain ⟨n, rfl⟩ := Nat.exists_eq_add_of_le hbe
  have hk := kow_ge X b (b + n)
  refine ⟨?_, ?_, ?_, ?_, fun q => absurd (show kow X b (b + n) < nI 128 by rw [show kow X b (b + n) = nI 2 from q]; decide) hk.1, fun q => ?_⟩
  · rw [am_up_s, am_up_n _ _ (by decide)]; exact h20
  · rw [am_up_s, am_up_n _ _ (by decide)]; exact h22
  · unfold kwV
    rw [am_up_s, am_up_n _ _ (by decide), am_up_s, h21, h26, Nat.add_sub_cancel_left]
    by_cases c : n ≤ 6
    · rw [if_pos ⟨rfl, fun q => absurd ((nI_ltI (by decide) (by omega)).mp q) (by omega)⟩, Nat.min_eq_left c]
      exact kwd_kow c (fun j hj => hL _ (by omega) (by omega))
    · rw [if_neg (fun q => q.2 ((nI_ltI (by decide) (by omega)).mpr (by omega)))]
      show -1 = kwI (kow X b (b + n))
      rw [kow_long (by omega)]
      decide
  · rw [am_up_s, am_up_n _ _ (by decide), h21]
    show nI 1 = nI (srt (kow X b (b + n)))
    rw [srt_w hk.1 hk.2]
  · have q : srt (kow X b (b + n)) = 3 := q
    rw [srt_w hk.1 hk.2] at q
    exact absurd q (by decide)
theorem nxT_L {X : Nat → Int32} {len b : Nat} (h : b < len) (hL : isL (X b) = true) : nxT X len b = (kow X b (runE isL X (len - b) b), b, runE isL X (len - b) b) := by
  unfold nxT
  rw [lx_go h, if_pos hL]
  rfl
theorem nxT_D {X : Nat → Int32} {len b : Nat} (h : b < len) (hL : ¬ isL (X b) = true) (hD : isD (X b) = true) : nxT X len b = (nI 2, b, runE isD X (len - b) b) := by
  unfold nxT
  rw [lx_go h, if_neg hL, if_pos hD]
  rfl
theorem nxT_S {X : Nat → Int32} {len b : Nat} (h : b < len) (hL : ¬ isL (X b) = true) (hD : ¬ isD (X b) = true) (hb : ¬ (X b = nI 32 ∨ X b = nI 10)) : nxT X len b = (if isG (X b) = true then X b else nI 1, b, b + 1) := by
  unfold nxT
  rw [lx_go h, if_neg hL, if_neg hD, if_neg hb]
  rfl
theorem nxT_B {X : Nat → Int32} {len b : Nat} (h : b < len) (hb : X b = nI 32 ∨ X b = nI 10) : nxT X len b = nxT X len (b + 1) := by
  unfold nxT
  rw [lx_go h, if_neg (by rcases hb with q | q <;> rw [q] <;> decide), if_neg (by rcases hb with q | q <;> rw [q] <;> decide), if_pos hb]
theorem nxT_E {X : Nat → Int32} {len b : Nat} (h : len ≤ b) : nxT X len b = (nI 0, len, len) := by
  unfold nxT
  rw [lx_end h]
  rfl
set_option maxHeartbeats 4000000 in
set_option maxRecDepth 100000 in
theorem w_goesS {m n : Nat} {v : Int32} {kd : mK} {I : mI} {J : mJ} {P : mP} {Qp : am_Post} (hk : Ru yX10_goes.cls cX10_goes 2 none yX10_goes.name 3 (Qp) 0 0 328 [some (.ref m), some (.int v)] [.int (nI (if isG v = true then 3 else 4)), .ref m] n kd I J P) : Ru yX10_goes.cls cX10_goes 2 none yX10_goes.name 3 (Qp) 0 0 269 [some (.ref m), some (.int v)] [.ref m] n kd I J P := by
  by_cases c59 : v = nI 59
  · rw [show isG v = true from by rw [c59]; decide] at hk
    refine r_iload_n dX10_goes_269 rfl ?_
    refine r_bipush (v := nI 59) dX10_goes_270 (by decide) ?_
    refine r_icmp_eq (tgt := 323) dX10_goes_272 (by decide) (fun _ => ?_) (fun hz => absurd (show _ from c59) hz)
    refine r_iconst (v := nI 3) dX10_goes_323 (by decide) ?_
    refine r_goto (tgt := 328) dX10_goes_324 (by decide) ?_
    exact hk
  by_cases c40 : v = nI 40
  · rw [show isG v = true from by rw [c40]; decide] at hk
    refine r_iload_n dX10_goes_269 rfl ?_
    refine r_bipush (v := nI 59) dX10_goes_270 (by decide) ?_
    refine r_icmp_eq (tgt := 323) dX10_goes_272 (by decide) (fun hz => absurd hz (show ¬ _ from c59)) (fun _ => ?_)
    refine r_iload_n dX10_goes_275 rfl ?_
    refine r_bipush (v := nI 40) dX10_goes_276 (by decide) ?_
    refine r_icmp_eq (tgt := 323) dX10_goes_278 (by decide) (fun _ => ?_) (fun hz => absurd (show _ from c40) hz)
    refine r_iconst (v := nI 3) dX10_goes_323 (by decide) ?_
    refine r_goto (tgt := 328) dX10_goes_324 (by decide) ?_
    exact hk
  by_cases c41 : v = nI 41
  · rw [show isG v = true from by rw [c41]; decide] at hk
    refine r_iload_n dX10_goes_269 rfl ?_
    refine r_bipush (v := nI 59) dX10_goes_270 (by decide) ?_
    refine r_icmp_eq (tgt := 323) dX10_goes_272 (by decide) (fun hz => absurd hz (show ¬ _ from c59)) (fun _ => ?_)
    refine r_iload_n dX10_goes_275 rfl ?_
    refine r_bipush (v := nI 40) dX10_goes_276 (by decide) ?_
    refine r_icmp_eq (tgt := 323) dX10_goes_278 (by decide) (fun hz => absurd hz (show ¬ _ from c40)) (fun _ => ?_)
    refine r_iload_n dX10_goes_281 rfl ?_
    refine r_bipush (v := nI 41) dX10_goes_282 (by decide) ?_
    refine r_icmp_eq (tgt := 323) dX10_goes_284 (by decide) (fun _ => ?_) (fun hz => absurd (show _ from c41) hz)
    refine r_iconst (v := nI 3) dX10_goes_323 (by decide) ?_
    refine r_goto (tgt := 328) dX10_goes_324 (by decide) ?_
    exact hk
  by_cases c43 : v = nI 43
  · rw [show isG v = true from by rw [c43]; decide] at hk
    refine r_iload_n dX10_goes_269 rfl ?_
    refine r_bipush (v := nI 59) dX10_goes_270 (by decide) ?_
    refine r_icmp_eq (tgt := 323) dX10_goes_272 (by decide) (fun hz => absurd hz (show ¬ _ from c59)) (fun _ => ?_)
    refine r_iload_n dX10_goes_275 rfl ?_
    refine r_bipush (v := nI 40) dX10_goes_276 (by decide) ?_
    refine r_icmp_eq (tgt := 323) dX10_goes_278 (by decide) (fun hz => absurd hz (show ¬ _ from c40)) (fun _ => ?_)
    refine r_iload_n dX10_goes_281 rfl ?_
    refine r_bipush (v := nI 41) dX10_goes_282 (by decide) ?_
    refine r_icmp_eq (tgt := 323) dX10_goes_284 (by decide) (fun hz => absurd hz (show ¬ _ from c41)) (fun _ => ?_)
    refine r_iload_n dX10_goes_287 rfl ?_
    refine r_bipush (v := nI 43) dX10_goes_288 (by decide) ?_
    refine r_icmp_eq (tgt := 323) dX10_goes_290 (by decide) (fun _ => ?_) (fun hz => absurd (show _ from c43) hz)
    refine r_iconst (v := nI 3) dX10_goes_323 (by decide) ?_
    refine r_goto (tgt := 328) dX10_goes_324 (by decide) ?_
    exact hk
  by_cases c45 : v = nI 45
  · rw [show isG v = true from by rw [c45]; decide] at hk
    refine r_iload_n dX10_goes_269 rfl ?_
    refine r_bipush (v := nI 59) dX10_goes_270 (by decide) ?_
    refine r_icmp_eq (tgt := 323) dX10_goes_272 (by decide) (fun hz => absurd hz (show ¬ _ from c59)) (fun _ => ?_)
    refine r_iload_n dX10_goes_275 rfl ?_
    refine r_bipush (v := nI 40) dX10_goes_276 (by decide) ?_
    refine r_icmp_eq (tgt := 323) dX10_goes_278 (by decide) (fun hz => absurd hz (show ¬ _ from c40)) (fun _ => ?_)
    refine r_iload_n dX10_goes_281 rfl ?_
    refine r_bipush (v := nI 41) dX10_goes_282 (by decide) ?_
    refine r_icmp_eq (tgt := 323) dX10_goes_284 (by decide) (fun hz => absurd hz (show ¬ _ from c41)) (fun _ => ?_)
    refine r_iload_n dX10_goes_287 rfl ?_
    refine r_bipush (v := nI 43) dX10_goes_288 (by decide) ?_
    refine r_icmp_eq (tgt := 323) dX10_goes_290 (by decide) (fun hz => absurd hz (show ¬ _ from c43)) (fun _ => ?_)
    refine r_iload_n dX10_goes_293 rfl ?_
    refine r_bipush (v := nI 45) dX10_goes_294 (by decide) ?_
    refine r_icmp_eq (tgt := 323) dX10_goes_296 (by decide) (fun _ => ?_) (fun hz => absurd (show _ from c45) hz)
    refine r_iconst (v := nI 3) dX10_goes_323 (by decide) ?_
    refine r_goto (tgt := 328) dX10_goes_324 (by decide) ?_
    exact hk
  by_cases c42 : v = nI 42
  · rw [show isG v = true from by rw [c42]; decide] at hk
    refine r_iload_n dX10_goes_269 rfl ?_
    refine r_bipush (v := nI 59) dX10_goes_270 (by decide) ?_
    refine r_icmp_eq (tgt := 323) dX10_goes_272 (by decide) (fun hz => absurd hz (show ¬ _ from c59)) (fun _ => ?_)
    refine r_iload_n dX10_goes_275 rfl ?_
    refine r_bipush (v := nI 40) dX10_goes_276 (by decide) ?_
    refine r_icmp_eq (tgt := 323) dX10_goes_278 (by decide) (fun hz => absurd hz (show ¬ _ from c40)) (fun _ => ?_)
    refine r_iload_n dX10_goes_281 rfl ?_
    refine r_bipush (v := nI 41) dX10_goes_282 (by decide) ?_
    refine r_icmp_eq (tgt := 323) dX10_goes_284 (by decide) (fun hz => absurd hz (show ¬ _ from c41)) (fun _ => ?_)
    refine r_iload_n dX10_goes_287 rfl ?_
    refine r_bipush (v := nI 43) dX10_goes_288 (by decide) ?_
    refine r_icmp_eq (tgt := 323) dX10_goes_290 (by decide) (fun hz => absurd hz (show ¬ _ from c43)) (fun _ => ?_)
    refine r_iload_n dX10_goes_293 rfl ?_
    refine r_bipush (v := nI 45) dX10_goes_294 (by decide) ?_
    refine r_icmp_eq (tgt := 323) dX10_goes_296 (by decide) (fun hz => absurd hz (show ¬ _ from c45)) (fun _ => ?_)
    refine r_iload_n dX10_goes_299 rfl ?_
    refine r_bipush (v := nI 42) dX10_goes_300 (by decide) ?_
    refine r_icmp_eq (tgt := 323) dX10_goes_302 (by decide) (fun _ => ?_) (fun hz => absurd (show _ from c42) hz)
    refine r_iconst (v := nI 3) dX10_goes_323 (by decide) ?_
    refine r_goto (tgt := 328) dX10_goes_324 (by decide) ?_
    exact hk
  by_cases c47 : v = nI 47
  · rw [show isG v = true from by rw [c47]; decide] at hk
    refine r_iload_n dX10_goes_269 rfl ?_
    refine r_bipush (v := nI 59) dX10_goes_270 (by decide) ?_
    refine r_icmp_eq (tgt := 323) dX10_goes_272 (by decide) (fun hz => absurd hz (show ¬ _ from c59)) (fun _ => ?_)
    refine r_iload_n dX10_goes_275 rfl ?_
    refine r_bipush (v := nI 40) dX10_goes_276 (by decide) ?_
    refine r_icmp_eq (tgt := 323) dX10_goes_278 (by decide) (fun hz => absurd hz (show ¬ _ from c40)) (fun _ => ?_)
    refine r_iload_n dX10_goes_281 rfl ?_
    refine r_bipush (v := nI 41) dX10_goes_282 (by decide) ?_
    refine r_icmp_eq (tgt := 323) dX10_goes_284 (by decide) (fun hz => absurd hz (show ¬ _ from c41)) (fun _ => ?_)
    refine r_iload_n dX10_goes_287 rfl ?_
    refine r_bipush (v := nI 43) dX10_goes_288 (by decide) ?_
    refine r_icmp_eq (tgt := 323) dX10_goes_290 (by decide) (fun hz => absurd hz (show ¬ _ from c43)) (fun _ => ?_)
    refine r_iload_n dX10_goes_293 rfl ?_
    refine r_bipush (v := nI 45) dX10_goes_294 (by decide) ?_
    refine r_icmp_eq (tgt := 323) dX10_goes_296 (by decide) (fun hz => absurd hz (show ¬ _ from c45)) (fun _ => ?_)
    refine r_iload_n dX10_goes_299 rfl ?_
    refine r_bipush (v := nI 42) dX10_goes_300 (by decide) ?_
    refine r_icmp_eq (tgt := 323) dX10_goes_302 (by decide) (fun hz => absurd hz (show ¬ _ from c42)) (fun _ => ?_)
    refine r_iload_n dX10_goes_305 rfl ?_
    refine r_bipush (v := nI 47) dX10_goes_306 (by decide) ?_
    refine r_icmp_eq (tgt := 323) dX10_goes_308 (by decide) (fun _ => ?_) (fun hz => absurd (show _ from c47) hz)
    refine r_iconst (v := nI 3) dX10_goes_323 (by decide) ?_
    refine r_goto (tgt := 328) dX10_goes_324 (by decide) ?_
    exact hk
  by_cases c60 : v = nI 60
  · rw [show isG v = true from by rw [c60]; decide] at hk
    refine r_iload_n dX10_goes_269 rfl ?_
    refine r_bipush (v := nI 59) dX10_goes_270 (by decide) ?_
    refine r_icmp_eq (tgt := 323) dX10_goes_272 (by decide) (fun hz => absurd hz (show ¬ _ from c59)) (fun _ => ?_)
    refine r_iload_n dX10_goes_275 rfl ?_
    refine r_bipush (v := nI 40) dX10_goes_276 (by decide) ?_
    refine r_icmp_eq (tgt := 323) dX10_goes_278 (by decide) (fun hz => absurd hz (show ¬ _ from c40)) (fun _ => ?_)
    refine r_iload_n dX10_goes_281 rfl ?_
    refine r_bipush (v := nI 41) dX10_goes_282 (by decide) ?_
    refine r_icmp_eq (tgt := 323) dX10_goes_284 (by decide) (fun hz => absurd hz (show ¬ _ from c41)) (fun _ => ?_)
    refine r_iload_n dX10_goes_287 rfl ?_
    refine r_bipush (v := nI 43) dX10_goes_288 (by decide) ?_
    refine r_icmp_eq (tgt := 323) dX10_goes_290 (by decide) (fun hz => absurd hz (show ¬ _ from c43)) (fun _ => ?_)
    refine r_iload_n dX10_goes_293 rfl ?_
    refine r_bipush (v := nI 45) dX10_goes_294 (by decide) ?_
    refine r_icmp_eq (tgt := 323) dX10_goes_296 (by decide) (fun hz => absurd hz (show ¬ _ from c45)) (fun _ => ?_)
    refine r_iload_n dX10_goes_299 rfl ?_
    refine r_bipush (v := nI 42) dX10_goes_300 (by decide) ?_
    refine r_icmp_eq (tgt := 323) dX10_goes_302 (by decide) (fun hz => absurd hz (show ¬ _ from c42)) (fun _ => ?_)
    refine r_iload_n dX10_goes_305 rfl ?_
    refine r_bipush (v := nI 47) dX10_goes_306 (by decide) ?_
    refine r_icmp_eq (tgt := 323) dX10_goes_308 (by decide) (fun hz => absurd hz (show ¬ _ from c47)) (fun _ => ?_)
    refine r_iload_n dX10_goes_311 rfl ?_
    refine r_bipush (v := nI 60) dX10_goes_312 (by decide) ?_
    refine r_icmp_eq (tgt := 323) dX10_goes_314 (by decide) (fun _ => ?_) (fun hz => absurd (show _ from c60) hz)
    refine r_iconst (v := nI 3) dX10_goes_323 (by decide) ?_
    refine r_goto (tgt := 328) dX10_goes_324 (by decide) ?_
    exact hk
  by_cases c61 : v = nI 61
  · rw [show isG v = true from by rw [c61]; decide] at hk
    refine r_iload_n dX10_goes_269 rfl ?_
    refine r_bipush (v := nI 59) dX10_goes_270 (by decide) ?_
    refine r_icmp_eq (tgt := 323) dX10_goes_272 (by decide) (fun hz => absurd hz (show ¬ _ from c59)) (fun _ => ?_)
    refine r_iload_n dX10_goes_275 rfl ?_
    refine r_bipush (v := nI 40) dX10_goes_276 (by decide) ?_
    refine r_icmp_eq (tgt := 323) dX10_goes_278 (by decide) (fun hz => absurd hz (show ¬ _ from c40)) (fun _ => ?_)
    refine r_iload_n dX10_goes_281 rfl ?_
    refine r_bipush (v := nI 41) dX10_goes_282 (by decide) ?_
    refine r_icmp_eq (tgt := 323) dX10_goes_284 (by decide) (fun hz => absurd hz (show ¬ _ from c41)) (fun _ => ?_)
    refine r_iload_n dX10_goes_287 rfl ?_
    refine r_bipush (v := nI 43) dX10_goes_288 (by decide) ?_
    refine r_icmp_eq (tgt := 323) dX10_goes_290 (by decide) (fun hz => absurd hz (show ¬ _ from c43)) (fun _ => ?_)
    refine r_iload_n dX10_goes_293 rfl ?_
    refine r_bipush (v := nI 45) dX10_goes_294 (by decide) ?_
    refine r_icmp_eq (tgt := 323) dX10_goes_296 (by decide) (fun hz => absurd hz (show ¬ _ from c45)) (fun _ => ?_)
    refine r_iload_n dX10_goes_299 rfl ?_
    refine r_bipush (v := nI 42) dX10_goes_300 (by decide) ?_
    refine r_icmp_eq (tgt := 323) dX10_goes_302 (by decide) (fun hz => absurd hz (show ¬ _ from c42)) (fun _ => ?_)
    refine r_iload_n dX10_goes_305 rfl ?_
    refine r_bipush (v := nI 47) dX10_goes_306 (by decide) ?_
    refine r_icmp_eq (tgt := 323) dX10_goes_308 (by decide) (fun hz => absurd hz (show ¬ _ from c47)) (fun _ => ?_)
    refine r_iload_n dX10_goes_311 rfl ?_
    refine r_bipush (v := nI 60) dX10_goes_312 (by decide) ?_
    refine r_icmp_eq (tgt := 323) dX10_goes_314 (by decide) (fun hz => absurd hz (show ¬ _ from c60)) (fun _ => ?_)
    refine r_iload_n dX10_goes_317 rfl ?_
    refine r_bipush (v := nI 61) dX10_goes_318 (by decide) ?_
    refine r_icmp_ne (tgt := 327) dX10_goes_320 (by decide) (fun hz => absurd (show _ from c61) hz) (fun _ => ?_)
    refine r_iconst (v := nI 3) dX10_goes_323 (by decide) ?_
    refine r_goto (tgt := 328) dX10_goes_324 (by decide) ?_
    exact hk
  have hn : isG v = false := by unfold isG; rw [decide_eq_false c59, decide_eq_false c40, decide_eq_false c41, decide_eq_false c43, decide_eq_false c45, decide_eq_false c42, decide_eq_false c47, decide_eq_false c60, decide_eq_false c61]; rfl
  rw [hn] at hk
  refine r_iload_n dX10_goes_269 rfl ?_
  refine r_bipush (v := nI 59) dX10_goes_270 (by decide) ?_
  refine r_icmp_eq (tgt := 323) dX10_goes_272 (by decide) (fun hz => absurd hz (show ¬ _ from c59)) (fun _ => ?_)
  refine r_iload_n dX10_goes_275 rfl ?_
  refine r_bipush (v := nI 40) dX10_goes_276 (by decide) ?_
  refine r_icmp_eq (tgt := 323) dX10_goes_278 (by decide) (fun hz => absurd hz (show ¬ _ from c40)) (fun _ => ?_)
  refine r_iload_n dX10_goes_281 rfl ?_
  refine r_bipush (v := nI 41) dX10_goes_282 (by decide) ?_
  refine r_icmp_eq (tgt := 323) dX10_goes_284 (by decide) (fun hz => absurd hz (show ¬ _ from c41)) (fun _ => ?_)
  refine r_iload_n dX10_goes_287 rfl ?_
  refine r_bipush (v := nI 43) dX10_goes_288 (by decide) ?_
  refine r_icmp_eq (tgt := 323) dX10_goes_290 (by decide) (fun hz => absurd hz (show ¬ _ from c43)) (fun _ => ?_)
  refine r_iload_n dX10_goes_293 rfl ?_
  refine r_bipush (v := nI 45) dX10_goes_294 (by decide) ?_
  refine r_icmp_eq (tgt := 323) dX10_goes_296 (by decide) (fun hz => absurd hz (show ¬ _ from c45)) (fun _ => ?_)
  refine r_iload_n dX10_goes_299 rfl ?_
  refine r_bipush (v := nI 42) dX10_goes_300 (by decide) ?_
  refine r_icmp_eq (tgt := 323) dX10_goes_302 (by decide) (fun hz => absurd hz (show ¬ _ from c42)) (fun _ => ?_)
  refine r_iload_n dX10_goes_305 rfl ?_
  refine r_bipush (v := nI 47) dX10_goes_306 (by decide) ?_
  refine r_icmp_eq (tgt := 323) dX10_goes_308 (by decide) (fun hz => absurd hz (show ¬ _ from c47)) (fun _ => ?_)
  refine r_iload_n dX10_goes_311 rfl ?_
  refine r_bipush (v := nI 60) dX10_goes_312 (by decide) ?_
  refine r_icmp_eq (tgt := 323) dX10_goes_314 (by decide) (fun hz => absurd hz (show ¬ _ from c60)) (fun _ => ?_)
  refine r_iload_n dX10_goes_317 rfl ?_
  refine r_bipush (v := nI 61) dX10_goes_318 (by decide) ?_
  refine r_icmp_ne (tgt := 327) dX10_goes_320 (by decide) (fun _ => ?_) (fun hz => absurd hz (show ¬ _ from c61))
  refine r_iconst (v := nI 4) dX10_goes_327 (by decide) ?_
  exact hk

set_option maxHeartbeats 4000000 in
set_option maxRecDepth 100000 in
theorem w_goes50 {m len : Nat} {X : Nat → Int32} {n : Nat} {kd : mK} {P : mP} {I0 : mI} {J0 : mJ} {tk : Tok} {b : Nat} {I : mI} {J : mJ} {z1 : Option Value} (hM : kM kd P m) (hg : gIn m len X I) (h20 : I m 20 = nI b) (hbl : b ≤ len) (hnb : b < len → ¬ (X b = nI 32 ∨ X b = nI 10)) (htk : nxT X len b = tk) (hf : gFr m I0 I J0 J) : Ru yX10_goes.cls cX10_goes 2 none yX10_goes.name 3 ((fun z n' kd' I' J' P' => z = .inl none ∧ n' = n ∧ kd' = kd ∧ P' = P ∧ gFr m I0 I' J0 J' ∧ gTk m X I' J' tk)) 0 0 50 [some (.ref m), z1] [] n kd I J P := by
  have hl5 := hg.2.1
  refine r_aload_n dX10_goes_50 rfl ?_
  refine r_aload_n dX10_goes_51 rfl ?_
  refine r_getI dX10_goes_52 fl_X10_206 rfl (kM_0 hM) ?_
  rw [h20]
  refine r_putI dX10_goes_55 fl_X10_213 rfl rfl (kM_0 hM) ?_
  refine r_aload_n dX10_goes_58 rfl ?_
  refine r_lconst (v := 0) dX10_goes_59 (by decide) ?_
  refine r_putJ dX10_goes_60 fl_X10_216 rfl rfl (kM_0 hM) ?_
  refine r_aload_n dX10_goes_63 rfl ?_
  refine r_iconst (v := nI 0) dX10_goes_64 (by decide) ?_
  refine r_putI dX10_goes_65 fl_X10_220 rfl rfl (kM_0 hM) ?_
  rw [am_up_s, am_up_up]
  obtain ⟨I1, hI1⟩ : ∃ X : mI, X = va_up I m (va_up (va_up (I m) 22 (nI b)) 24 (nI 0)) := ⟨_, rfl⟩
  rw [← hI1]
  have e20 : I1 m 20 = nI b := by rw [hI1, am_up_s, am_up_n _ _ (by decide), am_up_n _ _ (by decide)]; exact h20
  have e22 : I1 m 22 = nI b := by rw [hI1, am_up_s, am_up_n _ _ (by decide), am_up_s]
  have e24 : I1 m 24 = nI 0 := by rw [hI1, am_up_s, am_up_s]
  have hf1 : gFr m I I1 J (va_up J m (va_up (J m) 26 0)) := ⟨fun a ha => by rw [hI1, am_up_n _ _ ha], fun j hj => by rw [hI1, am_up_s, am_up_n _ _ (by omega), am_up_n _ _ (by omega)], fun a ha => am_up_n _ _ ha, fun j hj => by rw [am_up_s, am_up_n _ _ hj]⟩
  have e26 : va_up J m (va_up (J m) 26 0) m 26 = jN 0 := by rw [am_up_s, am_up_s]; rfl
  clear hI1
  generalize va_up J m (va_up (J m) 26 0) = J1 at hf1 e26 ⊢
  have hg1 := hg.fr hf1
  refine r_aload_n dX10_goes_68 rfl ?_
  refine r_aload_n dX10_goes_69 rfl ?_
  refine r_getI dX10_goes_70 fl_X10_206 rfl (kM_0 hM) ?_
  rw [e20]
  refine r_virtE (c_byte m len b hM hg1.1 hg1.2.1 (by omega)) lk_X10_209 mc_X10_byteAt dX10_goes_73 (kM_0 hM) (by decide) rfl rfl (Nat.le_of_ble_eq_true rfl) ?_
  refine r_istore_n dX10_goes_76 (by decide) ?_
  refine r_aload_n dX10_goes_77 rfl ?_
  refine r_iload_n dX10_goes_78 rfl ?_
  refine r_putI dX10_goes_79 fl_X10_223 rfl rfl (kM_0 hM) ?_
  have hf2 := (hf.tr hf1).tr (gFr.pI (I := I1) (J := J1) (k := 25) (x := bA len (I1 (m + 11)) b) (by decide))
  have hb1 := bA_L (k := b) hg1.2.2
  generalize bA len (I1 (m + 11)) b = v at hf2 hb1 ⊢
  have hg2 := hg1.fr (gFr.pI (I := I1) (J := J1) (k := 25) (x := v) (by decide))
  have d20 : va_up I1 m (va_up (I1 m) 25 v) m 20 = nI b := by rw [am_up_s, am_up_n _ _ (by decide)]; exact e20
  have d22 : va_up I1 m (va_up (I1 m) 25 v) m 22 = nI b := by rw [am_up_s, am_up_n _ _ (by decide)]; exact e22
  have d24 : va_up I1 m (va_up (I1 m) 25 v) m 24 = nI 0 := by rw [am_up_s, am_up_n _ _ (by decide)]; exact e24
  have d25 : va_up I1 m (va_up (I1 m) 25 v) m 25 = v := by rw [am_up_s, am_up_s]
  generalize va_up I1 m (va_up (I1 m) 25 v) = I2 at hf2 hg2 d20 d22 d24 d25 ⊢
  clear hf1 hg1 e20 e22 e24
  refine r_aload_n dX10_goes_82 rfl ?_
  refine r_getI dX10_goes_83 fl_X10_206 rfl (kM_0 hM) ?_
  rw [d20]
  refine r_aload_n dX10_goes_86 rfl ?_
  refine r_getI dX10_goes_87 fl_X10_203 rfl (kM_0 hM) ?_
  rw [hg2.1]
  by_cases q0 : b < len
  · by_cases qL : isL (X b) = true
    · skip
      refine r_icmp_lt (tgt := 101) dX10_goes_90 (by decide) (fun _ => ?_) (fun hz => absurd (show _ from ((nI_ltI (by omega) (by omega)).mpr q0)) hz)
      refine r_iload_n dX10_goes_101 rfl ?_
      refine r_statE (c_X10_isLetter _) lk_X10_229 mc_X10_isLetter dX10_goes_102 (by decide) rfl rfl (Nat.le_of_ble_eq_true rfl) ?_
      rw [hb1.1, decide_eq_true q0, Bool.true_and]
      rw [qL]
      refine r_if_eq (tgt := 180) dX10_goes_105 (by decide) (fun hz => absurd hz (show ¬ _ from (by decide))) (fun _ => ?_)
      exact w_goesL (e := runE isL X (len - b) b) hM (runE_spec isL X (len - b) b).1 ⟨by have := runE_le isL X (len - b) b; omega, (runE_spec isL X (len - b) b).2.imp (fun a => by omega) id⟩ (fun I3 J3 hg3 k20 k22 k26 hf3 => by
        refine r_aload_n dX10_goes_172 rfl ?_
        refine r_iconst (v := nI 1) dX10_goes_173 (by decide) ?_
        refine r_putI dX10_goes_174 fl_X10_226 rfl rfl (kM_0 hM) ?_
        refine r_goto (tgt := 331) dX10_goes_177 (by decide) ?_
        exact w_goesE hM ((runE_le isL X (len - b) b).1) (by have := runE_le isL X (len - b) b; omega) (by rw [am_up_s, am_up_n _ _ (by decide)]; exact k20) (by rw [am_up_s, am_up_n _ _ (by decide)]; exact k22) (fun I' J' hI' hJ' => by
          subst hI' hJ'
          refine ⟨rfl, rfl, rfl, rfl, (hf3.tr (gFr.pI (by decide))).tr (gFr.pI (by decide)), ?_⟩
          rw [← htk, nxT_L q0 qL]
          exact gTk.mkW (runE_le isL X (len - b) b).1 (by have := runE_le isL X (len - b) b; omega) (runE_spec isL X (len - b) b).1 (by rw [am_up_s, am_up_n _ _ (by decide)]; exact k20) (by rw [am_up_s, am_up_n _ _ (by decide)]; exact k22) (by rw [am_up_s, am_up_s]) k26)) (runE isL X (len - b) b - b) b I2 J1 (by have := runE_le isL X (len - b) b; omega) (Nat.le_refl b) hg2 d20 d22 (by rw [e26, Nat.sub_self]; rfl) hf2
    · by_cases qD : isD (X b) = true
      · skip
        refine r_icmp_lt (tgt := 101) dX10_goes_90 (by decide) (fun _ => ?_) (fun hz => absurd (show _ from ((nI_ltI (by omega) (by omega)).mpr q0)) hz)
        refine r_iload_n dX10_goes_101 rfl ?_
        refine r_statE (c_X10_isLetter _) lk_X10_229 mc_X10_isLetter dX10_goes_102 (by decide) rfl rfl (Nat.le_of_ble_eq_true rfl) ?_
        rw [hb1.1, decide_eq_true q0, Bool.true_and]
        rw [eq_false_of_ne_true qL]
        refine r_if_eq (tgt := 180) dX10_goes_105 (by decide) (fun _ => ?_) (fun hz => absurd (show _ from rfl) hz)
        refine r_iload_n dX10_goes_180 rfl ?_
        refine r_statE (c_X10_isDigit _) lk_X10_233 mc_X10_isDigit dX10_goes_181 (by decide) rfl rfl (Nat.le_of_ble_eq_true rfl) ?_
        rw [hb1.2.1, decide_eq_true q0, Bool.true_and]
        rw [qD]
        refine r_if_eq (tgt := 258) dX10_goes_184 (by decide) (fun hz => absurd hz (show ¬ _ from (by decide))) (fun _ => ?_)
        exact w_goesD (e := runE isD X (len - b) b) hM (runE_spec isD X (len - b) b).1 ⟨by have := runE_le isD X (len - b) b; omega, (runE_spec isD X (len - b) b).2.imp (fun a => by omega) id⟩ (fun I3 J3 hg3 k20 k22 k24 hf3 => by
          refine r_aload_n dX10_goes_250 rfl ?_
          refine r_iconst (v := nI 2) dX10_goes_251 (by decide) ?_
          refine r_putI dX10_goes_252 fl_X10_226 rfl rfl (kM_0 hM) ?_
          refine r_goto (tgt := 331) dX10_goes_255 (by decide) ?_
          exact w_goesE hM ((runE_le isD X (len - b) b).1) (by have := runE_le isD X (len - b) b; omega) (by rw [am_up_s, am_up_n _ _ (by decide)]; exact k20) (by rw [am_up_s, am_up_n _ _ (by decide)]; exact k22) (fun I' J' hI' hJ' => by
            subst hI' hJ'
            refine ⟨rfl, rfl, rfl, rfl, (hf3.tr (gFr.pI (by decide))).tr (gFr.pI (by decide)), ?_⟩
            rw [← htk, nxT_D q0 qL qD]
            exact gTk.mkN (by rw [am_up_s, am_up_n _ _ (by decide)]; exact k20) (by rw [am_up_s, am_up_n _ _ (by decide)]; exact k22) (by rw [am_up_s, am_up_s]) (by rw [am_up_s, am_up_n _ _ (by decide)]; exact k24))) (runE isD X (len - b) b - b) b I2 J1 (by have := runE_le isD X (len - b) b; omega) (Nat.le_refl b) hg2 d20 d22 (by rw [d24, Nat.sub_self]; rfl) hf2
      · skip
        refine r_icmp_lt (tgt := 101) dX10_goes_90 (by decide) (fun _ => ?_) (fun hz => absurd (show _ from ((nI_ltI (by omega) (by omega)).mpr q0)) hz)
        refine r_iload_n dX10_goes_101 rfl ?_
        refine r_statE (c_X10_isLetter _) lk_X10_229 mc_X10_isLetter dX10_goes_102 (by decide) rfl rfl (Nat.le_of_ble_eq_true rfl) ?_
        rw [hb1.1, decide_eq_true q0, Bool.true_and]
        rw [eq_false_of_ne_true qL]
        refine r_if_eq (tgt := 180) dX10_goes_105 (by decide) (fun _ => ?_) (fun hz => absurd (show _ from rfl) hz)
        refine r_iload_n dX10_goes_180 rfl ?_
        refine r_statE (c_X10_isDigit _) lk_X10_233 mc_X10_isDigit dX10_goes_181 (by decide) rfl rfl (Nat.le_of_ble_eq_true rfl) ?_
        rw [hb1.2.1, decide_eq_true q0, Bool.true_and]
        rw [eq_false_of_ne_true qD]
        refine r_if_eq (tgt := 258) dX10_goes_184 (by decide) (fun _ => ?_) (fun hz => absurd (show _ from rfl) hz)
        refine r_aload_n dX10_goes_258 rfl ?_
        refine r_dup dX10_goes_259 rfl ?_
        refine r_getI dX10_goes_260 fl_X10_206 rfl (kM_0 hM) ?_
        rw [d20]
        refine r_iconst (v := nI 1) dX10_goes_263 (by decide) ?_
        refine r_iadd dX10_goes_264 ?_
        rw [nI_add]
        refine r_putI dX10_goes_265 fl_X10_206 rfl rfl (kM_0 hM) ?_
        refine r_aload_n dX10_goes_268 rfl ?_
        have d25' : va_up I2 m (va_up (I2 m) 20 (nI (b + 1))) m 25 = v := by rw [am_up_s, am_up_n _ _ (by decide)]; exact d25
        have d22' : va_up I2 m (va_up (I2 m) 20 (nI (b + 1))) m 22 = nI b := by rw [am_up_s, am_up_n _ _ (by decide)]; exact d22
        have d20' : va_up I2 m (va_up (I2 m) 20 (nI (b + 1))) m 20 = nI (b + 1) := by rw [am_up_s, am_up_s]
        have hf3 := hf2.tr (gFr.pI (I := I2) (J := J1) (k := 20) (x := nI (b + 1)) (by decide))
        generalize va_up I2 m (va_up (I2 m) 20 (nI (b + 1))) = I3 at d25' d22' d20' hf3 ⊢
        refine w_goesS ?_
        rw [(hb1.2.2 q0).1]
        refine r_putI dX10_goes_328 fl_X10_226 rfl rfl (kM_0 hM) ?_
        exact w_goesE hM (Nat.le_succ b) (by omega) (by rw [am_up_s, am_up_n _ _ (by decide)]; exact d20') (by rw [am_up_s, am_up_n _ _ (by decide)]; exact d22') (fun I' J' hI' hJ' => by
          subst hI' hJ'
          refine ⟨rfl, rfl, rfl, rfl, (hf3.tr (gFr.pI (by decide))).tr (gFr.pI (by decide)), ?_⟩
          rw [← htk, nxT_S q0 qL qD (hnb q0)]
          by_cases qG : isG (X b) = true
          · rw [if_pos qG, if_pos qG]
            have hG := isG_of qG
            exact gTk.mk0 (by rw [hG.2]; decide) (fun z => by rw [z] at qG; exact absurd qG (by decide)) hG.1 (by rw [am_up_s, am_up_n _ _ (by decide)]; exact d20') (by rw [am_up_s, am_up_n _ _ (by decide)]; exact d22') (by rw [am_up_s, am_up_s, hG.2]) (fun _ => by rw [am_up_s, am_up_n _ _ (by decide), d25']; exact (hb1.2.2 q0).2.2.2 (Or.inr (Or.inr qG)))
          · rw [if_neg qG, if_neg qG]
            exact gTk.mk0 (k := nI 1) (by decide) (by decide) (by decide) (by rw [am_up_s, am_up_n _ _ (by decide)]; exact d20') (by rw [am_up_s, am_up_n _ _ (by decide)]; exact d22') (by rw [am_up_s, am_up_s]; rfl) (fun z => absurd z (by decide)))
  · skip
    refine r_icmp_lt (tgt := 101) dX10_goes_90 (by decide) (fun hz => absurd hz (show ¬ _ from (by rw [nI_ltI (by omega) (by omega)]; omega))) (fun _ => ?_)
    refine r_aload_n dX10_goes_93 rfl ?_
    refine r_iconst (v := nI 0) dX10_goes_94 (by decide) ?_
    refine r_putI dX10_goes_95 fl_X10_226 rfl rfl (kM_0 hM) ?_
    refine r_goto (tgt := 331) dX10_goes_98 (by decide) ?_
    exact w_goesE hM (Nat.le_refl b) (by omega) (by rw [am_up_s, am_up_n _ _ (by decide)]; exact d20) (by rw [am_up_s, am_up_n _ _ (by decide)]; exact d22) (fun I' J' hI' hJ' => by
      subst hI' hJ'
      refine ⟨rfl, rfl, rfl, rfl, (hf2.tr (gFr.pI (by decide))).tr (gFr.pI (by decide)), ?_⟩
      rw [← htk, nxT_E (by omega), ← show b = len by omega]
      exact gTk.mk0 (k := nI 0) (by decide) (by decide) (by decide) (by rw [am_up_s, am_up_n _ _ (by decide)]; exact d20) (by rw [am_up_s, am_up_n _ _ (by decide)]; exact d22) (by rw [am_up_s, am_up_s]; rfl) (fun q => absurd q (by decide)))

set_option maxHeartbeats 4000000 in
set_option maxRecDepth 100000 in
theorem w_goes0 {m len : Nat} {X : Nat → Int32} {n : Nat} {kd : mK} {P : mP} {I0 : mI} {J0 : mJ} {tk : Tok} {z1 : Option Value} (hM : kM kd P m) : ∀ (c b : Nat) (I : mI) (J : mJ), b + c = len → gIn m len X I → I m 20 = nI b → nxT X len b = tk → gFr m I0 I J0 J → Ru yX10_goes.cls cX10_goes 2 none yX10_goes.name 3 ((fun z n' kd' I' J' P' => z = .inl none ∧ n' = n ∧ kd' = kd ∧ P' = P ∧ gFr m I0 I' J0 J' ∧ gTk m X I' J' tk)) 0 0 0 [some (.ref m), z1] [] n kd I J P
  | 0, b, I, J, hc, hg, h20, htk, hf => by
    have hl5 := hg.2.1
    refine r_aload_n dX10_goes_0 rfl ?_
    refine r_getI dX10_goes_1 fl_X10_206 rfl (kM_0 hM) ?_
    rw [h20]
    refine r_aload_n dX10_goes_4 rfl ?_
    refine r_getI dX10_goes_5 fl_X10_203 rfl (kM_0 hM) ?_
    rw [hg.1]
    refine r_icmp_ge (tgt := 50) dX10_goes_8 (by decide) (fun _ => ?_) (fun hz => absurd (show _ from (by rw [nI_leI (by omega) (by omega)]; omega)) hz)
    exact w_goes50 hM hg h20 (by omega) (fun q => by omega) htk hf
  | c + 1, b, I, J, hc, hg, h20, htk, hf => by
    have hl5 := hg.2.1
    have q0 : b < len := by omega
    have hb1 := bA_L (k := b) hg.2.2
    by_cases q32 : X b = nI 32
    · skip
      refine r_aload_n dX10_goes_0 rfl ?_
      refine r_getI dX10_goes_1 fl_X10_206 rfl (kM_0 hM) ?_
      rw [h20]
      refine r_aload_n dX10_goes_4 rfl ?_
      refine r_getI dX10_goes_5 fl_X10_203 rfl (kM_0 hM) ?_
      rw [hg.1]
      refine r_icmp_ge (tgt := 50) dX10_goes_8 (by decide) (fun hz => absurd hz (show ¬ _ from (by rw [nI_leI (by omega) (by omega)]; omega))) (fun _ => ?_)
      refine r_aload_n dX10_goes_11 rfl ?_
      refine r_aload_n dX10_goes_12 rfl ?_
      refine r_getI dX10_goes_13 fl_X10_206 rfl (kM_0 hM) ?_
      rw [h20]
      refine r_virtE (c_byte m len b hM hg.1 hg.2.1 (by omega)) lk_X10_209 mc_X10_byteAt dX10_goes_16 (kM_0 hM) (by decide) rfl rfl (Nat.le_of_ble_eq_true rfl) ?_
      refine r_bipush (v := nI 32) dX10_goes_19 (by decide) ?_
      refine r_icmp_eq (tgt := 37) dX10_goes_21 (by decide) (fun _ => ?_) (fun hz => absurd (show _ from ((hb1.2.2 q0).2.1.mpr q32)) hz)
      refine r_aload_n dX10_goes_37 rfl ?_
      refine r_dup dX10_goes_38 rfl ?_
      refine r_getI dX10_goes_39 fl_X10_206 rfl (kM_0 hM) ?_
      rw [h20]
      refine r_iconst (v := nI 1) dX10_goes_42 (by decide) ?_
      refine r_iadd dX10_goes_43 ?_
      rw [nI_add]
      refine r_putI dX10_goes_44 fl_X10_206 rfl rfl (kM_0 hM) ?_
      refine r_goto (tgt := 0) dX10_goes_47 (by decide) ?_
      exact w_goes0 hM c (b + 1) _ J (by omega) (hg.fr (J := J) (J' := J) (gFr.pI (by decide))) (by rw [am_up_s, am_up_s]) (by rw [← nxT_B q0 (Or.inl q32)]; exact htk) (hf.tr (gFr.pI (by decide)))
    · by_cases q10 : X b = nI 10
      · skip
        refine r_aload_n dX10_goes_0 rfl ?_
        refine r_getI dX10_goes_1 fl_X10_206 rfl (kM_0 hM) ?_
        rw [h20]
        refine r_aload_n dX10_goes_4 rfl ?_
        refine r_getI dX10_goes_5 fl_X10_203 rfl (kM_0 hM) ?_
        rw [hg.1]
        refine r_icmp_ge (tgt := 50) dX10_goes_8 (by decide) (fun hz => absurd hz (show ¬ _ from (by rw [nI_leI (by omega) (by omega)]; omega))) (fun _ => ?_)
        refine r_aload_n dX10_goes_11 rfl ?_
        refine r_aload_n dX10_goes_12 rfl ?_
        refine r_getI dX10_goes_13 fl_X10_206 rfl (kM_0 hM) ?_
        rw [h20]
        refine r_virtE (c_byte m len b hM hg.1 hg.2.1 (by omega)) lk_X10_209 mc_X10_byteAt dX10_goes_16 (kM_0 hM) (by decide) rfl rfl (Nat.le_of_ble_eq_true rfl) ?_
        refine r_bipush (v := nI 32) dX10_goes_19 (by decide) ?_
        refine r_icmp_eq (tgt := 37) dX10_goes_21 (by decide) (fun hz => absurd hz (show ¬ _ from (fun z => q32 ((hb1.2.2 q0).2.1.mp z)))) (fun _ => ?_)
        refine r_aload_n dX10_goes_24 rfl ?_
        refine r_aload_n dX10_goes_25 rfl ?_
        refine r_getI dX10_goes_26 fl_X10_206 rfl (kM_0 hM) ?_
        rw [h20]
        refine r_virtE (c_byte m len b hM hg.1 hg.2.1 (by omega)) lk_X10_209 mc_X10_byteAt dX10_goes_29 (kM_0 hM) (by decide) rfl rfl (Nat.le_of_ble_eq_true rfl) ?_
        refine r_bipush (v := nI 10) dX10_goes_32 (by decide) ?_
        refine r_icmp_ne (tgt := 50) dX10_goes_34 (by decide) (fun hz => absurd (show _ from ((hb1.2.2 q0).2.2.1.mpr q10)) hz) (fun _ => ?_)
        refine r_aload_n dX10_goes_37 rfl ?_
        refine r_dup dX10_goes_38 rfl ?_
        refine r_getI dX10_goes_39 fl_X10_206 rfl (kM_0 hM) ?_
        rw [h20]
        refine r_iconst (v := nI 1) dX10_goes_42 (by decide) ?_
        refine r_iadd dX10_goes_43 ?_
        rw [nI_add]
        refine r_putI dX10_goes_44 fl_X10_206 rfl rfl (kM_0 hM) ?_
        refine r_goto (tgt := 0) dX10_goes_47 (by decide) ?_
        exact w_goes0 hM c (b + 1) _ J (by omega) (hg.fr (J := J) (J' := J) (gFr.pI (by decide))) (by rw [am_up_s, am_up_s]) (by rw [← nxT_B q0 (Or.inr q10)]; exact htk) (hf.tr (gFr.pI (by decide)))
      · skip
        refine r_aload_n dX10_goes_0 rfl ?_
        refine r_getI dX10_goes_1 fl_X10_206 rfl (kM_0 hM) ?_
        rw [h20]
        refine r_aload_n dX10_goes_4 rfl ?_
        refine r_getI dX10_goes_5 fl_X10_203 rfl (kM_0 hM) ?_
        rw [hg.1]
        refine r_icmp_ge (tgt := 50) dX10_goes_8 (by decide) (fun hz => absurd hz (show ¬ _ from (by rw [nI_leI (by omega) (by omega)]; omega))) (fun _ => ?_)
        refine r_aload_n dX10_goes_11 rfl ?_
        refine r_aload_n dX10_goes_12 rfl ?_
        refine r_getI dX10_goes_13 fl_X10_206 rfl (kM_0 hM) ?_
        rw [h20]
        refine r_virtE (c_byte m len b hM hg.1 hg.2.1 (by omega)) lk_X10_209 mc_X10_byteAt dX10_goes_16 (kM_0 hM) (by decide) rfl rfl (Nat.le_of_ble_eq_true rfl) ?_
        refine r_bipush (v := nI 32) dX10_goes_19 (by decide) ?_
        refine r_icmp_eq (tgt := 37) dX10_goes_21 (by decide) (fun hz => absurd hz (show ¬ _ from (fun z => q32 ((hb1.2.2 q0).2.1.mp z)))) (fun _ => ?_)
        refine r_aload_n dX10_goes_24 rfl ?_
        refine r_aload_n dX10_goes_25 rfl ?_
        refine r_getI dX10_goes_26 fl_X10_206 rfl (kM_0 hM) ?_
        rw [h20]
        refine r_virtE (c_byte m len b hM hg.1 hg.2.1 (by omega)) lk_X10_209 mc_X10_byteAt dX10_goes_29 (kM_0 hM) (by decide) rfl rfl (Nat.le_of_ble_eq_true rfl) ?_
        refine r_bipush (v := nI 10) dX10_goes_32 (by decide) ?_
        refine r_icmp_ne (tgt := 50) dX10_goes_34 (by decide) (fun _ => ?_) (fun hz => absurd hz (show ¬ _ from (fun z => q10 ((hb1.2.2 q0).2.2.1.mp z))))
        exact w_goes50 hM hg h20 (by omega) (fun _ z => z.elim q32 q10) htk hf

set_option maxHeartbeats 4000000 in
set_option maxRecDepth 100000 in
theorem c_goes (m len b : Nat) {X : Nat → Int32} {n : Nat} {kd : mK} {I : mI} {J : mJ} {P : mP} (hM : kM kd P m) (hg : gIn m len X I) (h20 : I m 20 = nI b) (hbl : b ≤ len) : Ct yX10_goes cX10_goes 2 none 3 0 0 [.ref m] n kd I J P (fun z n' kd' I' J' P' => z = .inl none ∧ n' = n ∧ kd' = kd ∧ P' = P ∧ gFr m I I' J J' ∧ gTk m X I' J' (nxT X len b)) := by
  refine ct_of 1 (by decide +kernel) (Nat.le_of_ble_eq_true rfl) rfl ?_
  exact w_goes0 hM (len - b) b I J (by omega) hg h20 rfl gFr.rf

