section Rules
variable {Z : am_Z} {own : String} {cc : ByteArray} {nL : Nat} {ret : Option FieldType} {nm : String} {d kc ks pc : Nat} {post : am_Post} {ls : List (Option Value)} {st : List Value} {n : Nat} {kd : mK} {I : mI} {J : mJ} {P : mP}
theorem r_iconst {z : Int} {v : Int32} (hd : decode cc pc = .ok (.iconst z, 1)) (hv : Int32.ofInt z = v) (k : RuZ Z own cc nL ret nm d post kc ks (pc + 1) ls (.int v :: st) n kd I J P) : RuZ Z own cc nL ret nm d post kc ks pc ls st n kd I J P := by
  intro p l e R s m args below meth c MC MS A D cA ad Qc XC free H locs cells slots lsC C r wf wl ws hl hc hs he
  exact lv_iconst (cx_x C) (cx_b C) hd hv (k p l e R s m args below meth c MC MS A D cA ad Qc XC free H locs cells slots lsC C r wf wl (ok_c am_ok_i ws) hl hc hs he)
theorem r_bipush {z : Int} {v : Int32} (hd : decode cc pc = .ok (.bipush z, 2)) (hv : (Int8.ofInt z).toInt32 = v) (k : RuZ Z own cc nL ret nm d post kc ks (pc + 2) ls (.int v :: st) n kd I J P) : RuZ Z own cc nL ret nm d post kc ks pc ls st n kd I J P := by
  intro p l e R s m args below meth c MC MS A D cA ad Qc XC free H locs cells slots lsC C r wf wl ws hl hc hs he
  exact lv_bipush (cx_x C) (cx_b C) hd hv (k p l e R s m args below meth c MC MS A D cA ad Qc XC free H locs cells slots lsC C r wf wl (ok_c am_ok_i ws) hl hc hs he)
theorem r_sipush {z : Int} {v : Int32} (hd : decode cc pc = .ok (.sipush z, 3)) (hv : (Int16.ofInt z).toInt32 = v) (k : RuZ Z own cc nL ret nm d post kc ks (pc + 3) ls (.int v :: st) n kd I J P) : RuZ Z own cc nL ret nm d post kc ks pc ls st n kd I J P := by
  intro p l e R s m args below meth c MC MS A D cA ad Qc XC free H locs cells slots lsC C r wf wl ws hl hc hs he
  exact lv_sipush (cx_x C) (cx_b C) hd hv (k p l e R s m args below meth c MC MS A D cA ad Qc XC free H locs cells slots lsC C r wf wl (ok_c am_ok_i ws) hl hc hs he)
theorem r_lconst {z : Fin 2} {v : Int64} (hd : decode cc pc = .ok (.lconst z, 1)) (hv : Int64.ofNat (z : Nat) = v) (k : RuZ Z own cc nL ret nm d post kc ks (pc + 1) ls (.long v :: st) n kd I J P) : RuZ Z own cc nL ret nm d post kc ks pc ls st n kd I J P := by
  intro p l e R s m args below meth c MC MS A D cA ad Qc XC free H locs cells slots lsC C r wf wl ws hl hc hs he
  exact lv_lconst (cx_x C) (cx_b C) hd hv (k p l e R s m args below meth c MC MS A D cA ad Qc XC free H locs cells slots lsC C r wf wl (ok_c am_ok_l ws) hl hc hs he)
theorem r_null  (hd : decode cc pc = .ok (.aconst_null, 1)) (k : RuZ Z own cc nL ret nm d post kc ks (pc + 1) ls (.null :: st) n kd I J P) : RuZ Z own cc nL ret nm d post kc ks pc ls st n kd I J P := by
  intro p l e R s m args below meth c MC MS A D cA ad Qc XC free H locs cells slots lsC C r wf wl ws hl hc hs he
  exact lv_null (cx_x C) (cx_b C) hd (k p l e R s m args below meth c MC MS A D cA ad Qc XC free H locs cells slots lsC C r wf wl (ok_c am_ok_n ws) hl hc hs he)
theorem r_ldc {z : Nat} {v : Int32} (hd : decode cc pc = .ok (.ldc z, 2)) (hw : Cond.constant own z v ∈ gw) (k : RuZ Z own cc nL ret nm d post kc ks (pc + 2) ls (.int v :: st) n kd I J P) : RuZ Z own cc nL ret nm d post kc ks pc ls st n kd I J P := by
  intro p l e R s m args below meth c MC MS A D cA ad Qc XC free H locs cells slots lsC C r wf wl ws hl hc hs he
  exact lv_ldc (cx_x C) (cx_b C) (cx_own C) (cx_ts C _ hw) hd (k p l e R s m args below meth c MC MS A D cA ad Qc XC free H locs cells slots lsC C r wf wl (ok_c am_ok_i ws) hl hc hs he)
theorem r_ldcw {z : Nat} {v : Int32} (hd : decode cc pc = .ok (.ldc_w z, 3)) (hw : Cond.constant own z v ∈ gw) (k : RuZ Z own cc nL ret nm d post kc ks (pc + 3) ls (.int v :: st) n kd I J P) : RuZ Z own cc nL ret nm d post kc ks pc ls st n kd I J P := by
  intro p l e R s m args below meth c MC MS A D cA ad Qc XC free H locs cells slots lsC C r wf wl ws hl hc hs he
  exact lv_ldcw (cx_x C) (cx_b C) (cx_own C) (cx_ts C _ hw) hd (k p l e R s m args below meth c MC MS A D cA ad Qc XC free H locs cells slots lsC C r wf wl (ok_c am_ok_i ws) hl hc hs he)
theorem r_ldc2 {z : Nat} {v : Int64} (hd : decode cc pc = .ok (.ldc2_w z, 3)) (hw : Cond.constantLong own z v ∈ gw) (k : RuZ Z own cc nL ret nm d post kc ks (pc + 3) ls (.long v :: st) n kd I J P) : RuZ Z own cc nL ret nm d post kc ks pc ls st n kd I J P := by
  intro p l e R s m args below meth c MC MS A D cA ad Qc XC free H locs cells slots lsC C r wf wl ws hl hc hs he
  exact lv_ldc2 (cx_x C) (cx_b C) (cx_own C) (cx_ts C _ hw) hd (k p l e R s m args below meth c MC MS A D cA ad Qc XC free H locs cells slots lsC C r wf wl (ok_c am_ok_l ws) hl hc hs he)
theorem r_iload_n {k4 : Fin 4} {x : Int32} (hd : decode cc pc = .ok (.iload_n k4, 1)) (hv : ls[(k4 : Nat)]? = some (some (.int x))) (k : RuZ Z own cc nL ret nm d post kc ks (pc + 1) ls (.int x :: st) n kd I J P) : RuZ Z own cc nL ret nm d post kc ks pc ls st n kd I J P := by
  intro p l e R s m args below meth c MC MS A D cA ad Qc XC free H locs cells slots lsC C r wf wl ws hl hc hs he
  exact lv_iload_n (cx_x C) (cx_b C) hd rfl (hl.2.2 _ _ hv) (k p l e R s m args below meth c MC MS A D cA ad Qc XC free H locs cells slots lsC C r wf wl (ok_c am_ok_i ws) hl hc hs he)
theorem r_iload {i : Nat} {x : Int32} (hd : decode cc pc = .ok (.iload i, 2)) (hv : ls[i]? = some (some (.int x))) (k : RuZ Z own cc nL ret nm d post kc ks (pc + 2) ls (.int x :: st) n kd I J P) : RuZ Z own cc nL ret nm d post kc ks pc ls st n kd I J P := by
  intro p l e R s m args below meth c MC MS A D cA ad Qc XC free H locs cells slots lsC C r wf wl ws hl hc hs he
  exact lv_iload (cx_x C) (cx_b C) hd (hl.2.2 _ _ hv) (k p l e R s m args below meth c MC MS A D cA ad Qc XC free H locs cells slots lsC C r wf wl (ok_c am_ok_i ws) hl hc hs he)
theorem r_lload_n {k4 : Fin 4} {x : Int64} (hd : decode cc pc = .ok (.lload_n k4, 1)) (hv : ls[(k4 : Nat)]? = some (some (.long x))) (k : RuZ Z own cc nL ret nm d post kc ks (pc + 1) ls (.long x :: st) n kd I J P) : RuZ Z own cc nL ret nm d post kc ks pc ls st n kd I J P := by
  intro p l e R s m args below meth c MC MS A D cA ad Qc XC free H locs cells slots lsC C r wf wl ws hl hc hs he
  exact lv_lload_n (cx_x C) (cx_b C) hd rfl (hl.2.2 _ _ hv) (k p l e R s m args below meth c MC MS A D cA ad Qc XC free H locs cells slots lsC C r wf wl (ok_c am_ok_l ws) hl hc hs he)
theorem r_lload {i : Nat} {x : Int64} (hd : decode cc pc = .ok (.lload i, 2)) (hv : ls[i]? = some (some (.long x))) (k : RuZ Z own cc nL ret nm d post kc ks (pc + 2) ls (.long x :: st) n kd I J P) : RuZ Z own cc nL ret nm d post kc ks pc ls st n kd I J P := by
  intro p l e R s m args below meth c MC MS A D cA ad Qc XC free H locs cells slots lsC C r wf wl ws hl hc hs he
  exact lv_lload (cx_x C) (cx_b C) hd (hl.2.2 _ _ hv) (k p l e R s m args below meth c MC MS A D cA ad Qc XC free H locs cells slots lsC C r wf wl (ok_c am_ok_l ws) hl hc hs he)
theorem r_aload_n {k4 : Fin 4} {x : Nat} (hd : decode cc pc = .ok (.aload_n k4, 1)) (hv : ls[(k4 : Nat)]? = some (some (.ref x))) (k : RuZ Z own cc nL ret nm d post kc ks (pc + 1) ls (.ref x :: st) n kd I J P) : RuZ Z own cc nL ret nm d post kc ks pc ls st n kd I J P := by
  intro p l e R s m args below meth c MC MS A D cA ad Qc XC free H locs cells slots lsC C r wf wl ws hl hc hs he
  exact lv_aload_n (cx_x C) (cx_b C) hd rfl (hl.2.2 _ _ hv) (k p l e R s m args below meth c MC MS A D cA ad Qc XC free H locs cells slots lsC C r wf wl (ok_c (wl _ (List.mem_of_getElem? hv)) ws) hl hc hs he)
theorem r_aload {i : Nat} {x : Nat} (hd : decode cc pc = .ok (.aload i, 2)) (hv : ls[i]? = some (some (.ref x))) (k : RuZ Z own cc nL ret nm d post kc ks (pc + 2) ls (.ref x :: st) n kd I J P) : RuZ Z own cc nL ret nm d post kc ks pc ls st n kd I J P := by
  intro p l e R s m args below meth c MC MS A D cA ad Qc XC free H locs cells slots lsC C r wf wl ws hl hc hs he
  exact lv_aload (cx_x C) (cx_b C) hd (hl.2.2 _ _ hv) (k p l e R s m args below meth c MC MS A D cA ad Qc XC free H locs cells slots lsC C r wf wl (ok_c (wl _ (List.mem_of_getElem? hv)) ws) hl hc hs he)
theorem r_istore_n {k4 : Fin 4} {x : Int32} (hd : decode cc pc = .ok (.istore_n k4, 1)) (hi : (k4 : Nat) < nL) (k : RuZ Z own cc nL ret nm d post kc ks (pc + 1) (am_st1 ls (k4 : Nat) (.int x)) st n kd I J P) : RuZ Z own cc nL ret nm d post kc ks pc ls (.int x :: st) n kd I J P := by
  intro p l e R s m args below meth c MC MS A D cA ad Qc XC free H locs cells slots lsC C r wf wl ws hl hc hs he
  exact lv_istore_n (cx_x C) (cx_b C) hd rfl hl.has hi rfl (fun ls9 h9 => k p l e R s m args below meth c MC MS A D cA ad Qc XC free H locs cells slots ls9 C r wf (am_ok_st1 ls (k4 : Nat) (.int x) wl am_ok_i) (ok_t ws) (hl.st1 h9) hc hs he)
theorem r_istore {i : Nat} {x : Int32} (hd : decode cc pc = .ok (.istore i, 2)) (hi : i < nL) (k : RuZ Z own cc nL ret nm d post kc ks (pc + 2) (am_st1 ls i (.int x)) st n kd I J P) : RuZ Z own cc nL ret nm d post kc ks pc ls (.int x :: st) n kd I J P := by
  intro p l e R s m args below meth c MC MS A D cA ad Qc XC free H locs cells slots lsC C r wf wl ws hl hc hs he
  exact lv_istore (cx_x C) (cx_b C) hd hl.has hi rfl (fun ls9 h9 => k p l e R s m args below meth c MC MS A D cA ad Qc XC free H locs cells slots ls9 C r wf (am_ok_st1 ls i (.int x) wl am_ok_i) (ok_t ws) (hl.st1 h9) hc hs he)
theorem r_astore_n {k4 : Fin 4} {x : Nat} (hd : decode cc pc = .ok (.astore_n k4, 1)) (hi : (k4 : Nat) < nL) (k : RuZ Z own cc nL ret nm d post kc ks (pc + 1) (am_st1 ls (k4 : Nat) (.ref x)) st n kd I J P) : RuZ Z own cc nL ret nm d post kc ks pc ls (.ref x :: st) n kd I J P := by
  intro p l e R s m args below meth c MC MS A D cA ad Qc XC free H locs cells slots lsC C r wf wl ws hl hc hs he
  exact lv_astore_n (cx_x C) (cx_b C) hd rfl hl.has hi rfl (fun ls9 h9 => k p l e R s m args below meth c MC MS A D cA ad Qc XC free H locs cells slots ls9 C r wf (am_ok_st1 ls (k4 : Nat) (.ref x) wl (ok_h ws)) (ok_t ws) (hl.st1 h9) hc hs he)
theorem r_astore {i : Nat} {x : Nat} (hd : decode cc pc = .ok (.astore i, 2)) (hi : i < nL) (k : RuZ Z own cc nL ret nm d post kc ks (pc + 2) (am_st1 ls i (.ref x)) st n kd I J P) : RuZ Z own cc nL ret nm d post kc ks pc ls (.ref x :: st) n kd I J P := by
  intro p l e R s m args below meth c MC MS A D cA ad Qc XC free H locs cells slots lsC C r wf wl ws hl hc hs he
  exact lv_astore (cx_x C) (cx_b C) hd hl.has hi rfl (fun ls9 h9 => k p l e R s m args below meth c MC MS A D cA ad Qc XC free H locs cells slots ls9 C r wf (am_ok_st1 ls i (.ref x) wl (ok_h ws)) (ok_t ws) (hl.st1 h9) hc hs he)
theorem r_lstore_n {k4 : Fin 4} {x : Int64} (hd : decode cc pc = .ok (.lstore_n k4, 1)) (hi : (k4 : Nat) + 1 < nL) (k : RuZ Z own cc nL ret nm d post kc ks (pc + 1) (am_st2 ls (k4 : Nat) (.long x)) st n kd I J P) : RuZ Z own cc nL ret nm d post kc ks pc ls (.long x :: st) n kd I J P := by
  intro p l e R s m args below meth c MC MS A D cA ad Qc XC free H locs cells slots lsC C r wf wl ws hl hc hs he
  exact lv_lstore_n (cx_x C) (cx_b C) hd rfl hl.has hi rfl (fun ls9 h9 => k p l e R s m args below meth c MC MS A D cA ad Qc XC free H locs cells slots ls9 C r wf (am_ok_st2 ls (k4 : Nat) (.long x) wl am_ok_l) (ok_t ws) (hl.st2 h9) hc hs he)
theorem r_lstore {i : Nat} {x : Int64} (hd : decode cc pc = .ok (.lstore i, 2)) (hi : i + 1 < nL) (k : RuZ Z own cc nL ret nm d post kc ks (pc + 2) (am_st2 ls i (.long x)) st n kd I J P) : RuZ Z own cc nL ret nm d post kc ks pc ls (.long x :: st) n kd I J P := by
  intro p l e R s m args below meth c MC MS A D cA ad Qc XC free H locs cells slots lsC C r wf wl ws hl hc hs he
  exact lv_lstore (cx_x C) (cx_b C) hd hl.has hi rfl (fun ls9 h9 => k p l e R s m args below meth c MC MS A D cA ad Qc XC free H locs cells slots ls9 C r wf (am_ok_st2 ls i (.long x) wl am_ok_l) (ok_t ws) (hl.st2 h9) hc hs he)
theorem r_iinc {i : Nat} {z : Int} {x v : Int32} (hd : decode cc pc = .ok (.iinc i z, 3)) (hx : ls[i]? = some (some (.int x))) (hv : x + Int32.ofInt z = v) (k : RuZ Z own cc nL ret nm d post kc ks (pc + 3) (am_st1 ls i (.int v)) st n kd I J P) : RuZ Z own cc nL ret nm d post kc ks pc ls st n kd I J P := by
  intro p l e R s m args below meth c MC MS A D cA ad Qc XC free H locs cells slots lsC C r wf wl ws hl hc hs he
  have hi := hl.lt hx
  obtain ⟨j9, hj9⟩ := List.getElem?_of_mem (am_l_in (ad := ad) hi hx)
  exact lv_iinc (cx_x C) (cx_b C) hd hl.has (k := j9) hj9 hv hi rfl (fun ls9 h9 => k p l e R s m args below meth c MC MS A D cA ad Qc XC free H locs cells slots ls9 C r wf (am_ok_st1 ls i (.int v) wl am_ok_i) ws (hl.st1 (v := .int v) h9) hc hs he)
theorem r_iadd {x y : Int32} (hd : decode cc pc = .ok (.iadd, 1)) (k : RuZ Z own cc nL ret nm d post kc ks (pc + 1) ls (.int (x + y) :: st) n kd I J P) : RuZ Z own cc nL ret nm d post kc ks pc ls (.int y :: .int x :: st) n kd I J P := by
  intro p l e R s m args below meth c MC MS A D cA ad Qc XC free H locs cells slots lsC C r wf wl ws hl hc hs he
  exact lv_iadd (cx_x C) (cx_b C) hd (k p l e R s m args below meth c MC MS A D cA ad Qc XC free H locs cells slots lsC C r wf wl (ok_c am_ok_i (ok_t (ok_t ws))) hl hc hs he)
theorem r_isub {x y : Int32} (hd : decode cc pc = .ok (.isub, 1)) (k : RuZ Z own cc nL ret nm d post kc ks (pc + 1) ls (.int (x - y) :: st) n kd I J P) : RuZ Z own cc nL ret nm d post kc ks pc ls (.int y :: .int x :: st) n kd I J P := by
  intro p l e R s m args below meth c MC MS A D cA ad Qc XC free H locs cells slots lsC C r wf wl ws hl hc hs he
  exact lv_isub (cx_x C) (cx_b C) hd (k p l e R s m args below meth c MC MS A D cA ad Qc XC free H locs cells slots lsC C r wf wl (ok_c am_ok_i (ok_t (ok_t ws))) hl hc hs he)
theorem r_imul {x y : Int32} (hd : decode cc pc = .ok (.imul, 1)) (k : RuZ Z own cc nL ret nm d post kc ks (pc + 1) ls (.int (x * y) :: st) n kd I J P) : RuZ Z own cc nL ret nm d post kc ks pc ls (.int y :: .int x :: st) n kd I J P := by
  intro p l e R s m args below meth c MC MS A D cA ad Qc XC free H locs cells slots lsC C r wf wl ws hl hc hs he
  exact lv_imul (cx_x C) (cx_b C) hd (k p l e R s m args below meth c MC MS A D cA ad Qc XC free H locs cells slots lsC C r wf wl (ok_c am_ok_i (ok_t (ok_t ws))) hl hc hs he)
theorem r_iand {x y : Int32} (hd : decode cc pc = .ok (.iand, 1)) (k : RuZ Z own cc nL ret nm d post kc ks (pc + 1) ls (.int (x &&& y) :: st) n kd I J P) : RuZ Z own cc nL ret nm d post kc ks pc ls (.int y :: .int x :: st) n kd I J P := by
  intro p l e R s m args below meth c MC MS A D cA ad Qc XC free H locs cells slots lsC C r wf wl ws hl hc hs he
  exact lv_iand (cx_x C) (cx_b C) hd (k p l e R s m args below meth c MC MS A D cA ad Qc XC free H locs cells slots lsC C r wf wl (ok_c am_ok_i (ok_t (ok_t ws))) hl hc hs he)
theorem r_ior {x y : Int32} (hd : decode cc pc = .ok (.ior, 1)) (k : RuZ Z own cc nL ret nm d post kc ks (pc + 1) ls (.int (x ||| y) :: st) n kd I J P) : RuZ Z own cc nL ret nm d post kc ks pc ls (.int y :: .int x :: st) n kd I J P := by
  intro p l e R s m args below meth c MC MS A D cA ad Qc XC free H locs cells slots lsC C r wf wl ws hl hc hs he
  exact lv_ior (cx_x C) (cx_b C) hd (k p l e R s m args below meth c MC MS A D cA ad Qc XC free H locs cells slots lsC C r wf wl (ok_c am_ok_i (ok_t (ok_t ws))) hl hc hs he)
theorem r_ixor {x y : Int32} (hd : decode cc pc = .ok (.ixor, 1)) (k : RuZ Z own cc nL ret nm d post kc ks (pc + 1) ls (.int (x ^^^ y) :: st) n kd I J P) : RuZ Z own cc nL ret nm d post kc ks pc ls (.int y :: .int x :: st) n kd I J P := by
  intro p l e R s m args below meth c MC MS A D cA ad Qc XC free H locs cells slots lsC C r wf wl ws hl hc hs he
  exact lv_ixor (cx_x C) (cx_b C) hd (k p l e R s m args below meth c MC MS A D cA ad Qc XC free H locs cells slots lsC C r wf wl (ok_c am_ok_i (ok_t (ok_t ws))) hl hc hs he)
theorem r_ishl {x y : Int32} (hd : decode cc pc = .ok (.ishl, 1)) (k : RuZ Z own cc nL ret nm d post kc ks (pc + 1) ls (.int (x <<< (y &&& 31)) :: st) n kd I J P) : RuZ Z own cc nL ret nm d post kc ks pc ls (.int y :: .int x :: st) n kd I J P := by
  intro p l e R s m args below meth c MC MS A D cA ad Qc XC free H locs cells slots lsC C r wf wl ws hl hc hs he
  exact lv_ishl (cx_x C) (cx_b C) hd (k p l e R s m args below meth c MC MS A D cA ad Qc XC free H locs cells slots lsC C r wf wl (ok_c am_ok_i (ok_t (ok_t ws))) hl hc hs he)
theorem r_ishr {x y : Int32} (hd : decode cc pc = .ok (.ishr, 1)) (k : RuZ Z own cc nL ret nm d post kc ks (pc + 1) ls (.int (x >>> (y &&& 31)) :: st) n kd I J P) : RuZ Z own cc nL ret nm d post kc ks pc ls (.int y :: .int x :: st) n kd I J P := by
  intro p l e R s m args below meth c MC MS A D cA ad Qc XC free H locs cells slots lsC C r wf wl ws hl hc hs he
  exact lv_ishr (cx_x C) (cx_b C) hd (k p l e R s m args below meth c MC MS A D cA ad Qc XC free H locs cells slots lsC C r wf wl (ok_c am_ok_i (ok_t (ok_t ws))) hl hc hs he)
theorem r_idiv {x y : Int32} (hd : decode cc pc = .ok (.idiv, 1)) (h0 : ¬ y = 0) (k : RuZ Z own cc nL ret nm d post kc ks (pc + 1) ls (.int (x / y) :: st) n kd I J P) : RuZ Z own cc nL ret nm d post kc ks pc ls (.int y :: .int x :: st) n kd I J P := by
  intro p l e R s m args below meth c MC MS A D cA ad Qc XC free H locs cells slots lsC C r wf wl ws hl hc hs he
  exact lv_idiv (cx_x C) (cx_b C) hd h0 (k p l e R s m args below meth c MC MS A D cA ad Qc XC free H locs cells slots lsC C r wf wl (ok_c am_ok_i (ok_t (ok_t ws))) hl hc hs he)
theorem r_irem {x y : Int32} (hd : decode cc pc = .ok (.irem, 1)) (h0 : ¬ y = 0) (k : RuZ Z own cc nL ret nm d post kc ks (pc + 1) ls (.int (x - x / y * y) :: st) n kd I J P) : RuZ Z own cc nL ret nm d post kc ks pc ls (.int y :: .int x :: st) n kd I J P := by
  intro p l e R s m args below meth c MC MS A D cA ad Qc XC free H locs cells slots lsC C r wf wl ws hl hc hs he
  exact lv_irem (cx_x C) (cx_b C) hd h0 (k p l e R s m args below meth c MC MS A D cA ad Qc XC free H locs cells slots lsC C r wf wl (ok_c am_ok_i (ok_t (ok_t ws))) hl hc hs he)
theorem r_ineg {x : Int32} (hd : decode cc pc = .ok (.ineg, 1)) (k : RuZ Z own cc nL ret nm d post kc ks (pc + 1) ls (.int (-x) :: st) n kd I J P) : RuZ Z own cc nL ret nm d post kc ks pc ls (.int x :: st) n kd I J P := by
  intro p l e R s m args below meth c MC MS A D cA ad Qc XC free H locs cells slots lsC C r wf wl ws hl hc hs he
  exact lv_ineg (cx_x C) (cx_b C) hd (k p l e R s m args below meth c MC MS A D cA ad Qc XC free H locs cells slots lsC C r wf wl (ok_c am_ok_i (ok_t ws)) hl hc hs he)
theorem r_iushr {x y : Int32} (hd : decode cc pc = .ok (.iushr, 1)) (k : RuZ Z own cc nL ret nm d post kc ks (pc + 1) ls (.int (x.toUInt32 >>> (y.toUInt32 &&& Int32.toUInt32 31)).toInt32 :: st) n kd I J P) : RuZ Z own cc nL ret nm d post kc ks pc ls (.int y :: .int x :: st) n kd I J P := by
  intro p l e R s m args below meth c MC MS A D cA ad Qc XC free H locs cells slots lsC C r wf wl ws hl hc hs he
  exact lv_iushr (cx_x C) (cx_b C) hd rfl (k p l e R s m args below meth c MC MS A D cA ad Qc XC free H locs cells slots lsC C r wf wl (ok_c am_ok_i (ok_t (ok_t ws))) hl hc hs he)
theorem r_ladd {x y : Int64} (hd : decode cc pc = .ok (.ladd, 1)) (k : RuZ Z own cc nL ret nm d post kc ks (pc + 1) ls (.long (x + y) :: st) n kd I J P) : RuZ Z own cc nL ret nm d post kc ks pc ls (.long y :: .long x :: st) n kd I J P := by
  intro p l e R s m args below meth c MC MS A D cA ad Qc XC free H locs cells slots lsC C r wf wl ws hl hc hs he
  exact lv_ladd (cx_x C) (cx_b C) hd (k p l e R s m args below meth c MC MS A D cA ad Qc XC free H locs cells slots lsC C r wf wl (ok_c am_ok_l (ok_t (ok_t ws))) hl hc hs he)
theorem r_lsub {x y : Int64} (hd : decode cc pc = .ok (.lsub, 1)) (k : RuZ Z own cc nL ret nm d post kc ks (pc + 1) ls (.long (x - y) :: st) n kd I J P) : RuZ Z own cc nL ret nm d post kc ks pc ls (.long y :: .long x :: st) n kd I J P := by
  intro p l e R s m args below meth c MC MS A D cA ad Qc XC free H locs cells slots lsC C r wf wl ws hl hc hs he
  exact lv_lsub (cx_x C) (cx_b C) hd (k p l e R s m args below meth c MC MS A D cA ad Qc XC free H locs cells slots lsC C r wf wl (ok_c am_ok_l (ok_t (ok_t ws))) hl hc hs he)
theorem r_land {x y : Int64} (hd : decode cc pc = .ok (.land, 1)) (k : RuZ Z own cc nL ret nm d post kc ks (pc + 1) ls (.long (x &&& y) :: st) n kd I J P) : RuZ Z own cc nL ret nm d post kc ks pc ls (.long y :: .long x :: st) n kd I J P := by
  intro p l e R s m args below meth c MC MS A D cA ad Qc XC free H locs cells slots lsC C r wf wl ws hl hc hs he
  exact lv_land (cx_x C) (cx_b C) hd (k p l e R s m args below meth c MC MS A D cA ad Qc XC free H locs cells slots lsC C r wf wl (ok_c am_ok_l (ok_t (ok_t ws))) hl hc hs he)
theorem r_lor {x y : Int64} (hd : decode cc pc = .ok (.lor, 1)) (k : RuZ Z own cc nL ret nm d post kc ks (pc + 1) ls (.long (x ||| y) :: st) n kd I J P) : RuZ Z own cc nL ret nm d post kc ks pc ls (.long y :: .long x :: st) n kd I J P := by
  intro p l e R s m args below meth c MC MS A D cA ad Qc XC free H locs cells slots lsC C r wf wl ws hl hc hs he
  exact lv_lor (cx_x C) (cx_b C) hd (k p l e R s m args below meth c MC MS A D cA ad Qc XC free H locs cells slots lsC C r wf wl (ok_c am_ok_l (ok_t (ok_t ws))) hl hc hs he)
theorem r_lxor {x y : Int64} (hd : decode cc pc = .ok (.lxor, 1)) (k : RuZ Z own cc nL ret nm d post kc ks (pc + 1) ls (.long (x ^^^ y) :: st) n kd I J P) : RuZ Z own cc nL ret nm d post kc ks pc ls (.long y :: .long x :: st) n kd I J P := by
  intro p l e R s m args below meth c MC MS A D cA ad Qc XC free H locs cells slots lsC C r wf wl ws hl hc hs he
  exact lv_lxor (cx_x C) (cx_b C) hd (k p l e R s m args below meth c MC MS A D cA ad Qc XC free H locs cells slots lsC C r wf wl (ok_c am_ok_l (ok_t (ok_t ws))) hl hc hs he)
theorem r_lshl {x : Int64} {y : Int32} (hd : decode cc pc = .ok (.lshl, 1)) (k : RuZ Z own cc nL ret nm d post kc ks (pc + 1) ls (.long (x <<< (y.toInt64 &&& 63)) :: st) n kd I J P) : RuZ Z own cc nL ret nm d post kc ks pc ls (.int y :: .long x :: st) n kd I J P := by
  intro p l e R s m args below meth c MC MS A D cA ad Qc XC free H locs cells slots lsC C r wf wl ws hl hc hs he
  exact lv_lshl (cx_x C) (cx_b C) hd rfl (k p l e R s m args below meth c MC MS A D cA ad Qc XC free H locs cells slots lsC C r wf wl (ok_c am_ok_l (ok_t (ok_t ws))) hl hc hs he)
theorem r_lshr {x : Int64} {y : Int32} (hd : decode cc pc = .ok (.lshr, 1)) (k : RuZ Z own cc nL ret nm d post kc ks (pc + 1) ls (.long (x >>> (y.toInt64 &&& 63)) :: st) n kd I J P) : RuZ Z own cc nL ret nm d post kc ks pc ls (.int y :: .long x :: st) n kd I J P := by
  intro p l e R s m args below meth c MC MS A D cA ad Qc XC free H locs cells slots lsC C r wf wl ws hl hc hs he
  exact lv_lshr (cx_x C) (cx_b C) hd rfl (k p l e R s m args below meth c MC MS A D cA ad Qc XC free H locs cells slots lsC C r wf wl (ok_c am_ok_l (ok_t (ok_t ws))) hl hc hs he)
theorem r_lushr {x : Int64} {y : Int32} (hd : decode cc pc = .ok (.lushr, 1)) (k : RuZ Z own cc nL ret nm d post kc ks (pc + 1) ls (.long ((x.toUInt64 >>> (y.toInt64.toUInt64 &&& Int64.toUInt64 63)).toInt64) :: st) n kd I J P) : RuZ Z own cc nL ret nm d post kc ks pc ls (.int y :: .long x :: st) n kd I J P := by
  intro p l e R s m args below meth c MC MS A D cA ad Qc XC free H locs cells slots lsC C r wf wl ws hl hc hs he
  exact lv_lushr (cx_x C) (cx_b C) hd rfl (k p l e R s m args below meth c MC MS A D cA ad Qc XC free H locs cells slots lsC C r wf wl (ok_c am_ok_l (ok_t (ok_t ws))) hl hc hs he)
theorem r_lcmp {x y : Int64} (hd : decode cc pc = .ok (.lcmp, 1)) (k : RuZ Z own cc nL ret nm d post kc ks (pc + 1) ls (.int (lg_cmp x y) :: st) n kd I J P) : RuZ Z own cc nL ret nm d post kc ks pc ls (.long y :: .long x :: st) n kd I J P := by
  intro p l e R s m args below meth c MC MS A D cA ad Qc XC free H locs cells slots lsC C r wf wl ws hl hc hs he
  exact W.lcmp (cx_x C) (cx_b C) hd (k p l e R s m args below meth c MC MS A D cA ad Qc XC free H locs cells slots lsC C r wf wl (ok_c am_ok_i (ok_t (ok_t ws))) hl hc hs he)
theorem r_i2l {x : Int32} (hd : decode cc pc = .ok (.i2l, 1)) (k : RuZ Z own cc nL ret nm d post kc ks (pc + 1) ls (.long x.toInt64 :: st) n kd I J P) : RuZ Z own cc nL ret nm d post kc ks pc ls (.int x :: st) n kd I J P := by
  intro p l e R s m args below meth c MC MS A D cA ad Qc XC free H locs cells slots lsC C r wf wl ws hl hc hs he
  exact lv_i2l (cx_x C) (cx_b C) hd rfl (k p l e R s m args below meth c MC MS A D cA ad Qc XC free H locs cells slots lsC C r wf wl (ok_c am_ok_l (ok_t ws)) hl hc hs he)
theorem r_l2i {x : Int64} (hd : decode cc pc = .ok (.l2i, 1)) (k : RuZ Z own cc nL ret nm d post kc ks (pc + 1) ls (.int x.toInt32 :: st) n kd I J P) : RuZ Z own cc nL ret nm d post kc ks pc ls (.long x :: st) n kd I J P := by
  intro p l e R s m args below meth c MC MS A D cA ad Qc XC free H locs cells slots lsC C r wf wl ws hl hc hs he
  exact lv_l2i (cx_x C) (cx_b C) hd rfl (k p l e R s m args below meth c MC MS A D cA ad Qc XC free H locs cells slots lsC C r wf wl (ok_c am_ok_i (ok_t ws)) hl hc hs he)
theorem r_i2b {x : Int32} (hd : decode cc pc = .ok (.i2b, 1)) (k : RuZ Z own cc nL ret nm d post kc ks (pc + 1) ls (.int x.toInt8.toInt32 :: st) n kd I J P) : RuZ Z own cc nL ret nm d post kc ks pc ls (.int x :: st) n kd I J P := by
  intro p l e R s m args below meth c MC MS A D cA ad Qc XC free H locs cells slots lsC C r wf wl ws hl hc hs he
  exact lv_i2b (cx_x C) (cx_b C) hd rfl (k p l e R s m args below meth c MC MS A D cA ad Qc XC free H locs cells slots lsC C r wf wl (ok_c am_ok_i (ok_t ws)) hl hc hs he)
theorem r_i2c {x : Int32} (hd : decode cc pc = .ok (.i2c, 1)) (k : RuZ Z own cc nL ret nm d post kc ks (pc + 1) ls (.int (x.toUInt32 % 65536).toInt32 :: st) n kd I J P) : RuZ Z own cc nL ret nm d post kc ks pc ls (.int x :: st) n kd I J P := by
  intro p l e R s m args below meth c MC MS A D cA ad Qc XC free H locs cells slots lsC C r wf wl ws hl hc hs he
  exact lv_i2c (cx_x C) (cx_b C) hd rfl (k p l e R s m args below meth c MC MS A D cA ad Qc XC free H locs cells slots lsC C r wf wl (ok_c am_ok_i (ok_t ws)) hl hc hs he)
theorem r_dup {v : Value} (hd : decode cc pc = .ok (.dup, 1)) (hv : v.category = 1) (k : RuZ Z own cc nL ret nm d post kc ks (pc + 1) ls (v :: v :: st) n kd I J P) : RuZ Z own cc nL ret nm d post kc ks pc ls (v :: st) n kd I J P := by
  intro p l e R s m args below meth c MC MS A D cA ad Qc XC free H locs cells slots lsC C r wf wl ws hl hc hs he
  exact lv_dup (cx_x C) (cx_b C) hd (by rw [am_cat]; exact hv) (k p l e R s m args below meth c MC MS A D cA ad Qc XC free H locs cells slots lsC C r wf wl (ok_c (ok_h ws) ws) hl hc hs he)
theorem r_pop {v : Value} (hd : decode cc pc = .ok (.pop, 1)) (hv : v.category = 1) (k : RuZ Z own cc nL ret nm d post kc ks (pc + 1) ls st n kd I J P) : RuZ Z own cc nL ret nm d post kc ks pc ls (v :: st) n kd I J P := by
  intro p l e R s m args below meth c MC MS A D cA ad Qc XC free H locs cells slots lsC C r wf wl ws hl hc hs he
  exact lv_pop (cx_x C) (cx_b C) hd (by rw [am_cat]; exact hv) (k p l e R s m args below meth c MC MS A D cA ad Qc XC free H locs cells slots lsC C r wf wl (ok_t ws) hl hc hs he)
theorem r_dup2 {v w : Value} (hd : decode cc pc = .ok (.dup2, 1)) (hv : v.category = 1) (hw : w.category = 1) (k : RuZ Z own cc nL ret nm d post kc ks (pc + 1) ls (v :: w :: v :: w :: st) n kd I J P) : RuZ Z own cc nL ret nm d post kc ks pc ls (v :: w :: st) n kd I J P := by
  intro p l e R s m args below meth c MC MS A D cA ad Qc XC free H locs cells slots lsC C r wf wl ws hl hc hs he
  exact lv_dup2_11 (cx_x C) (cx_b C) hd (by rw [am_cat]; exact hv) (by rw [am_cat]; exact hw) (k p l e R s m args below meth c MC MS A D cA ad Qc XC free H locs cells slots lsC C r wf wl (ok_c (ok_h ws) (ok_c (ok_h (ok_t ws)) ws)) hl hc hs he)
theorem r_if_eq {x : Int32} {off : Int} {tgt : Nat} (hd : decode cc pc = .ok (.ifCond .eq off, 3)) (ht : (pc : Int) + off = (tgt : Int)) (kt : x = 0 → RuZ Z own cc nL ret nm d post kc ks tgt ls st n kd I J P) (kf : ¬ x = 0 → RuZ Z own cc nL ret nm d post kc ks (pc + 3) ls st n kd I J P) : RuZ Z own cc nL ret nm d post kc ks pc ls (.int x :: st) n kd I J P := by
  intro p l e R s m args below meth c MC MS A D cA ad Qc XC free H locs cells slots lsC C r wf wl ws hl hc hs he
  exact lv_if_eq (cx_x C) (cx_b C) hd ht (fun h9 => kt h9 p l e R s m args below meth c MC MS A D cA ad Qc XC free H locs cells slots lsC C r wf wl (ok_t ws) hl hc hs he) (fun h9 => kf h9 p l e R s m args below meth c MC MS A D cA ad Qc XC free H locs cells slots lsC C r wf wl (ok_t ws) hl hc hs he)
theorem r_icmp_eq {x y : Int32} {off : Int} {tgt : Nat} (hd : decode cc pc = .ok (.if_icmp .eq off, 3)) (ht : (pc : Int) + off = (tgt : Int)) (kt : x = y → RuZ Z own cc nL ret nm d post kc ks tgt ls st n kd I J P) (kf : ¬ x = y → RuZ Z own cc nL ret nm d post kc ks (pc + 3) ls st n kd I J P) : RuZ Z own cc nL ret nm d post kc ks pc ls (.int y :: .int x :: st) n kd I J P := by
  intro p l e R s m args below meth c MC MS A D cA ad Qc XC free H locs cells slots lsC C r wf wl ws hl hc hs he
  exact lv_icmp_eq (cx_x C) (cx_b C) hd ht (fun h9 => kt h9 p l e R s m args below meth c MC MS A D cA ad Qc XC free H locs cells slots lsC C r wf wl (ok_t (ok_t ws)) hl hc hs he) (fun h9 => kf h9 p l e R s m args below meth c MC MS A D cA ad Qc XC free H locs cells slots lsC C r wf wl (ok_t (ok_t ws)) hl hc hs he)
theorem r_if_ne {x : Int32} {off : Int} {tgt : Nat} (hd : decode cc pc = .ok (.ifCond .ne off, 3)) (ht : (pc : Int) + off = (tgt : Int)) (kt : ¬ x = 0 → RuZ Z own cc nL ret nm d post kc ks tgt ls st n kd I J P) (kf : x = 0 → RuZ Z own cc nL ret nm d post kc ks (pc + 3) ls st n kd I J P) : RuZ Z own cc nL ret nm d post kc ks pc ls (.int x :: st) n kd I J P := by
  intro p l e R s m args below meth c MC MS A D cA ad Qc XC free H locs cells slots lsC C r wf wl ws hl hc hs he
  exact lv_if_ne (cx_x C) (cx_b C) hd ht (fun h9 => kt h9 p l e R s m args below meth c MC MS A D cA ad Qc XC free H locs cells slots lsC C r wf wl (ok_t ws) hl hc hs he) (fun h9 => kf h9 p l e R s m args below meth c MC MS A D cA ad Qc XC free H locs cells slots lsC C r wf wl (ok_t ws) hl hc hs he)
theorem r_icmp_ne {x y : Int32} {off : Int} {tgt : Nat} (hd : decode cc pc = .ok (.if_icmp .ne off, 3)) (ht : (pc : Int) + off = (tgt : Int)) (kt : ¬ x = y → RuZ Z own cc nL ret nm d post kc ks tgt ls st n kd I J P) (kf : x = y → RuZ Z own cc nL ret nm d post kc ks (pc + 3) ls st n kd I J P) : RuZ Z own cc nL ret nm d post kc ks pc ls (.int y :: .int x :: st) n kd I J P := by
  intro p l e R s m args below meth c MC MS A D cA ad Qc XC free H locs cells slots lsC C r wf wl ws hl hc hs he
  exact lv_icmp_ne (cx_x C) (cx_b C) hd ht (fun h9 => kt h9 p l e R s m args below meth c MC MS A D cA ad Qc XC free H locs cells slots lsC C r wf wl (ok_t (ok_t ws)) hl hc hs he) (fun h9 => kf h9 p l e R s m args below meth c MC MS A D cA ad Qc XC free H locs cells slots lsC C r wf wl (ok_t (ok_t ws)) hl hc hs he)
theorem r_if_lt {x : Int32} {off : Int} {tgt : Nat} (hd : decode cc pc = .ok (.ifCond .lt off, 3)) (ht : (pc : Int) + off = (tgt : Int)) (kt : x < 0 → RuZ Z own cc nL ret nm d post kc ks tgt ls st n kd I J P) (kf : ¬ x < 0 → RuZ Z own cc nL ret nm d post kc ks (pc + 3) ls st n kd I J P) : RuZ Z own cc nL ret nm d post kc ks pc ls (.int x :: st) n kd I J P := by
  intro p l e R s m args below meth c MC MS A D cA ad Qc XC free H locs cells slots lsC C r wf wl ws hl hc hs he
  exact lv_if_lt (cx_x C) (cx_b C) hd ht (fun h9 => kt h9 p l e R s m args below meth c MC MS A D cA ad Qc XC free H locs cells slots lsC C r wf wl (ok_t ws) hl hc hs he) (fun h9 => kf h9 p l e R s m args below meth c MC MS A D cA ad Qc XC free H locs cells slots lsC C r wf wl (ok_t ws) hl hc hs he)
theorem r_icmp_lt {x y : Int32} {off : Int} {tgt : Nat} (hd : decode cc pc = .ok (.if_icmp .lt off, 3)) (ht : (pc : Int) + off = (tgt : Int)) (kt : x < y → RuZ Z own cc nL ret nm d post kc ks tgt ls st n kd I J P) (kf : ¬ x < y → RuZ Z own cc nL ret nm d post kc ks (pc + 3) ls st n kd I J P) : RuZ Z own cc nL ret nm d post kc ks pc ls (.int y :: .int x :: st) n kd I J P := by
  intro p l e R s m args below meth c MC MS A D cA ad Qc XC free H locs cells slots lsC C r wf wl ws hl hc hs he
  exact lv_icmp_lt (cx_x C) (cx_b C) hd ht (fun h9 => kt h9 p l e R s m args below meth c MC MS A D cA ad Qc XC free H locs cells slots lsC C r wf wl (ok_t (ok_t ws)) hl hc hs he) (fun h9 => kf h9 p l e R s m args below meth c MC MS A D cA ad Qc XC free H locs cells slots lsC C r wf wl (ok_t (ok_t ws)) hl hc hs he)
theorem r_if_ge {x : Int32} {off : Int} {tgt : Nat} (hd : decode cc pc = .ok (.ifCond .ge off, 3)) (ht : (pc : Int) + off = (tgt : Int)) (kt : 0 ≤ x → RuZ Z own cc nL ret nm d post kc ks tgt ls st n kd I J P) (kf : ¬ 0 ≤ x → RuZ Z own cc nL ret nm d post kc ks (pc + 3) ls st n kd I J P) : RuZ Z own cc nL ret nm d post kc ks pc ls (.int x :: st) n kd I J P := by
  intro p l e R s m args below meth c MC MS A D cA ad Qc XC free H locs cells slots lsC C r wf wl ws hl hc hs he
  exact lv_if_ge (cx_x C) (cx_b C) hd ht (fun h9 => kt h9 p l e R s m args below meth c MC MS A D cA ad Qc XC free H locs cells slots lsC C r wf wl (ok_t ws) hl hc hs he) (fun h9 => kf h9 p l e R s m args below meth c MC MS A D cA ad Qc XC free H locs cells slots lsC C r wf wl (ok_t ws) hl hc hs he)
theorem r_icmp_ge {x y : Int32} {off : Int} {tgt : Nat} (hd : decode cc pc = .ok (.if_icmp .ge off, 3)) (ht : (pc : Int) + off = (tgt : Int)) (kt : y ≤ x → RuZ Z own cc nL ret nm d post kc ks tgt ls st n kd I J P) (kf : ¬ y ≤ x → RuZ Z own cc nL ret nm d post kc ks (pc + 3) ls st n kd I J P) : RuZ Z own cc nL ret nm d post kc ks pc ls (.int y :: .int x :: st) n kd I J P := by
  intro p l e R s m args below meth c MC MS A D cA ad Qc XC free H locs cells slots lsC C r wf wl ws hl hc hs he
  exact lv_icmp_ge (cx_x C) (cx_b C) hd ht (fun h9 => kt h9 p l e R s m args below meth c MC MS A D cA ad Qc XC free H locs cells slots lsC C r wf wl (ok_t (ok_t ws)) hl hc hs he) (fun h9 => kf h9 p l e R s m args below meth c MC MS A D cA ad Qc XC free H locs cells slots lsC C r wf wl (ok_t (ok_t ws)) hl hc hs he)
theorem r_if_gt {x : Int32} {off : Int} {tgt : Nat} (hd : decode cc pc = .ok (.ifCond .gt off, 3)) (ht : (pc : Int) + off = (tgt : Int)) (kt : 0 < x → RuZ Z own cc nL ret nm d post kc ks tgt ls st n kd I J P) (kf : ¬ 0 < x → RuZ Z own cc nL ret nm d post kc ks (pc + 3) ls st n kd I J P) : RuZ Z own cc nL ret nm d post kc ks pc ls (.int x :: st) n kd I J P := by
  intro p l e R s m args below meth c MC MS A D cA ad Qc XC free H locs cells slots lsC C r wf wl ws hl hc hs he
  exact lv_if_gt (cx_x C) (cx_b C) hd ht (fun h9 => kt h9 p l e R s m args below meth c MC MS A D cA ad Qc XC free H locs cells slots lsC C r wf wl (ok_t ws) hl hc hs he) (fun h9 => kf h9 p l e R s m args below meth c MC MS A D cA ad Qc XC free H locs cells slots lsC C r wf wl (ok_t ws) hl hc hs he)
theorem r_icmp_gt {x y : Int32} {off : Int} {tgt : Nat} (hd : decode cc pc = .ok (.if_icmp .gt off, 3)) (ht : (pc : Int) + off = (tgt : Int)) (kt : y < x → RuZ Z own cc nL ret nm d post kc ks tgt ls st n kd I J P) (kf : ¬ y < x → RuZ Z own cc nL ret nm d post kc ks (pc + 3) ls st n kd I J P) : RuZ Z own cc nL ret nm d post kc ks pc ls (.int y :: .int x :: st) n kd I J P := by
  intro p l e R s m args below meth c MC MS A D cA ad Qc XC free H locs cells slots lsC C r wf wl ws hl hc hs he
  exact lv_icmp_gt (cx_x C) (cx_b C) hd ht (fun h9 => kt h9 p l e R s m args below meth c MC MS A D cA ad Qc XC free H locs cells slots lsC C r wf wl (ok_t (ok_t ws)) hl hc hs he) (fun h9 => kf h9 p l e R s m args below meth c MC MS A D cA ad Qc XC free H locs cells slots lsC C r wf wl (ok_t (ok_t ws)) hl hc hs he)
theorem r_if_le {x : Int32} {off : Int} {tgt : Nat} (hd : decode cc pc = .ok (.ifCond .le off, 3)) (ht : (pc : Int) + off = (tgt : Int)) (kt : x ≤ 0 → RuZ Z own cc nL ret nm d post kc ks tgt ls st n kd I J P) (kf : ¬ x ≤ 0 → RuZ Z own cc nL ret nm d post kc ks (pc + 3) ls st n kd I J P) : RuZ Z own cc nL ret nm d post kc ks pc ls (.int x :: st) n kd I J P := by
  intro p l e R s m args below meth c MC MS A D cA ad Qc XC free H locs cells slots lsC C r wf wl ws hl hc hs he
  exact lv_if_le (cx_x C) (cx_b C) hd ht (fun h9 => kt h9 p l e R s m args below meth c MC MS A D cA ad Qc XC free H locs cells slots lsC C r wf wl (ok_t ws) hl hc hs he) (fun h9 => kf h9 p l e R s m args below meth c MC MS A D cA ad Qc XC free H locs cells slots lsC C r wf wl (ok_t ws) hl hc hs he)
theorem r_icmp_le {x y : Int32} {off : Int} {tgt : Nat} (hd : decode cc pc = .ok (.if_icmp .le off, 3)) (ht : (pc : Int) + off = (tgt : Int)) (kt : x ≤ y → RuZ Z own cc nL ret nm d post kc ks tgt ls st n kd I J P) (kf : ¬ x ≤ y → RuZ Z own cc nL ret nm d post kc ks (pc + 3) ls st n kd I J P) : RuZ Z own cc nL ret nm d post kc ks pc ls (.int y :: .int x :: st) n kd I J P := by
  intro p l e R s m args below meth c MC MS A D cA ad Qc XC free H locs cells slots lsC C r wf wl ws hl hc hs he
  exact lv_icmp_le (cx_x C) (cx_b C) hd ht (fun h9 => kt h9 p l e R s m args below meth c MC MS A D cA ad Qc XC free H locs cells slots lsC C r wf wl (ok_t (ok_t ws)) hl hc hs he) (fun h9 => kf h9 p l e R s m args below meth c MC MS A D cA ad Qc XC free H locs cells slots lsC C r wf wl (ok_t (ok_t ws)) hl hc hs he)
theorem r_goto {off : Int} {tgt : Nat} (hd : decode cc pc = .ok (.goto off, 3)) (ht : (pc : Int) + off = (tgt : Int)) (k : RuZ Z own cc nL ret nm d post kc ks tgt ls st n kd I J P) : RuZ Z own cc nL ret nm d post kc ks pc ls st n kd I J P := by
  intro p l e R s m args below meth c MC MS A D cA ad Qc XC free H locs cells slots lsC C r wf wl ws hl hc hs he
  exact lv_goto (cx_x C) (cx_b C) hd ht (k p l e R s m args below meth c MC MS A D cA ad Qc XC free H locs cells slots lsC C r wf wl ws hl hc hs he)
theorem r_nonnull {x : Nat} {off : Int} {tgt : Nat} (hd : decode cc pc = .ok (.ifnonnull off, 3)) (ht : (pc : Int) + off = (tgt : Int)) (k : RuZ Z own cc nL ret nm d post kc ks tgt ls st n kd I J P) : RuZ Z own cc nL ret nm d post kc ks pc ls (.ref x :: st) n kd I J P := by
  intro p l e R s m args below meth c MC MS A D cA ad Qc XC free H locs cells slots lsC C r wf wl ws hl hc hs he
  exact lv_ifnonnull (cx_x C) (cx_b C) hd ht (k p l e R s m args below meth c MC MS A D cA ad Qc XC free H locs cells slots lsC C r wf wl (ok_t ws) hl hc hs he)
theorem r_nonnullN {off : Int} (hd : decode cc pc = .ok (.ifnonnull off, 3)) (k : RuZ Z own cc nL ret nm d post kc ks (pc + 3) ls st n kd I J P) : RuZ Z own cc nL ret nm d post kc ks pc ls (.null :: st) n kd I J P := by
  intro p l e R s m args below meth c MC MS A D cA ad Qc XC free H locs cells slots lsC C r wf wl ws hl hc hs he
  exact lv_ifnonnullN (cx_x C) (cx_b C) hd (k p l e R s m args below meth c MC MS A D cA ad Qc XC free H locs cells slots lsC C r wf wl (ok_t ws) hl hc hs he)
theorem r_ifnull {x : Nat} {off : Int} (hd : decode cc pc = .ok (.ifnull off, 3)) (k : RuZ Z own cc nL ret nm d post kc ks (pc + 3) ls st n kd I J P) : RuZ Z own cc nL ret nm d post kc ks pc ls (.ref x :: st) n kd I J P := by
  intro p l e R s m args below meth c MC MS A D cA ad Qc XC free H locs cells slots lsC C r wf wl ws hl hc hs he
  exact lv_ifnull (cx_x C) (cx_b C) hd (k p l e R s m args below meth c MC MS A D cA ad Qc XC free H locs cells slots lsC C r wf wl (ok_t ws) hl hc hs he)
theorem r_ifnullN {off : Int} {tgt : Nat} (hd : decode cc pc = .ok (.ifnull off, 3)) (ht : (pc : Int) + off = (tgt : Int)) (k : RuZ Z own cc nL ret nm d post kc ks tgt ls st n kd I J P) : RuZ Z own cc nL ret nm d post kc ks pc ls (.null :: st) n kd I J P := by
  intro p l e R s m args below meth c MC MS A D cA ad Qc XC free H locs cells slots lsC C r wf wl ws hl hc hs he
  exact lv_ifnullN (cx_x C) (cx_b C) hd ht (k p l e R s m args below meth c MC MS A D cA ad Qc XC free H locs cells slots lsC C r wf wl (ok_t ws) hl hc hs he)
theorem r_tabOut {dflt lo hi : Int} {offs : Array Int} {len : Nat} {x : Int32} {tgt : Nat} (hd : decode cc pc = .ok (.tableswitch dflt lo hi offs, len)) (h : x.toInt < lo ∨ hi < x.toInt) (ht : (pc : Int) + dflt = (tgt : Int)) (k : RuZ Z own cc nL ret nm d post kc ks tgt ls st n kd I J P) : RuZ Z own cc nL ret nm d post kc ks pc ls (.int x :: st) n kd I J P := by
  intro p l e R s m args below meth c MC MS A D cA ad Qc XC free H locs cells slots lsC C r wf wl ws hl hc hs he
  exact lv_tableOut (cx_x C) (cx_b C) hd h ht (k p l e R s m args below meth c MC MS A D cA ad Qc XC free H locs cells slots lsC C r wf wl (ok_t ws) hl hc hs he)
theorem r_tabIn {dflt lo hi : Int} {offs : Array Int} {len : Nat} {x : Int32} {off : Int} {tgt : Nat} (hd : decode cc pc = .ok (.tableswitch dflt lo hi offs, len)) (h1 : ¬ x.toInt < lo) (h2 : ¬ hi < x.toInt) (ho : offs[(x.toInt - lo).toNat]? = some off) (ht : (pc : Int) + off = (tgt : Int)) (k : RuZ Z own cc nL ret nm d post kc ks tgt ls st n kd I J P) : RuZ Z own cc nL ret nm d post kc ks pc ls (.int x :: st) n kd I J P := by
  intro p l e R s m args below meth c MC MS A D cA ad Qc XC free H locs cells slots lsC C r wf wl ws hl hc hs he
  exact lv_tableIn (cx_x C) (cx_b C) hd h1 h2 ho ht (k p l e R s m args below meth c MC MS A D cA ad Qc XC free H locs cells slots lsC C r wf wl (ok_t ws) hl hc hs he)
theorem r_iret {x : Int32} (hr : ret = some .int) (hd : decode cc pc = .ok (.ireturn, 1)) (h : post (.inl (some (.int x))) n kd I J P) : RuZ Z own cc nL ret nm d post kc ks pc ls [.int x] n kd I J P := by
  intro p l e R s m args below meth c MC MS A D cA ad Qc XC free H locs cells slots lsC C r wf wl ws hl hc hs he
  subst hr
  refine W.widen (Nat.le_trans (Nat.le_add_right _ _) hc) (Nat.le_trans (Nat.le_add_right _ _) hs) (vx_ret ?_)
  exact W.iret (cx_x C) (cx_b C) (cx_r C) (fun t ht hW => he.2.1 _ n kd I J P ad H locs h r wf (fun w e => by cases e; exact am_ok_i) (Nat.le_refl _) (fun _ _ => rfl) t ht hW) (fun q hq => he.1.1 _ (r.2.2.2.2 q hq)) hd (cx_lk C)
theorem r_zret {x : Int32} (hr : ret = some .boolean) (hd : decode cc pc = .ok (.ireturn, 1)) (hx : x = 0 ∨ x = 1) (h : post (.inl (some (.int x))) n kd I J P) : RuZ Z own cc nL ret nm d post kc ks pc ls [.int x] n kd I J P := by
  intro p l e R s m args below meth c MC MS A D cA ad Qc XC free H locs cells slots lsC C r wf wl ws hl hc hs he
  subst hr
  refine W.widen (Nat.le_trans (Nat.le_add_right _ _) hc) (Nat.le_trans (Nat.le_add_right _ _) hs) (vx_ret ?_)
  exact W.zret (cx_x C) (cx_b C) (cx_r C) (by rcases hx with rfl | rfl <;> rfl) (fun t ht hW => he.2.1 _ n kd I J P ad H locs h r wf (fun w e => by cases e; exact am_ok_i) (Nat.le_refl _) (fun _ _ => rfl) t ht hW) (fun q hq => he.1.1 _ (r.2.2.2.2 q hq)) hd (cx_lk C)
theorem r_lret {x : Int64} (hr : ret = some .long) (hd : decode cc pc = .ok (.lreturn, 1)) (h : post (.inl (some (.long x))) n kd I J P) : RuZ Z own cc nL ret nm d post kc ks pc ls [.long x] n kd I J P := by
  intro p l e R s m args below meth c MC MS A D cA ad Qc XC free H locs cells slots lsC C r wf wl ws hl hc hs he
  subst hr
  refine W.widen (Nat.le_trans (Nat.le_add_right _ _) hc) (Nat.le_trans (Nat.le_add_right _ _) hs) (vx_ret ?_)
  exact W.lret (cx_x C) (cx_b C) (cx_r C) (fun t ht hW => he.2.1 _ n kd I J P ad H locs h r wf (fun w e => by cases e; exact am_ok_l) (Nat.le_refl _) (fun _ _ => rfl) t ht hW) (fun q hq => he.1.1 _ (r.2.2.2.2 q hq)) hd (cx_lk C)
theorem r_vret (hr : ret = none) (hd : decode cc pc = .ok (.return_, 1)) (h : post (.inl none) n kd I J P) : RuZ Z own cc nL ret nm d post kc ks pc ls [] n kd I J P := by
  intro p l e R s m args below meth c MC MS A D cA ad Qc XC free H locs cells slots lsC C r wf wl ws hl hc hs he
  subst hr
  refine W.widen (Nat.le_trans (Nat.le_add_right _ _) hc) (Nat.le_trans (Nat.le_add_right _ _) hs) (vx_ret ?_)
  exact W.vret (cx_x C) (cx_b C) (cx_r C) (fun t ht hW => he.2.1 _ n kd I J P ad H locs h r wf (fun w e => nomatch e) (Nat.le_refl _) (fun _ _ => rfl) t ht hW) (fun q hq => he.1.1 _ (r.2.2.2.2 q hq)) hd (cx_lk C)
theorem r_aret {x : Nat} {ty : FieldType} (hr : ret = some (.array ty)) (hd : decode cc pc = .ok (.areturn, 1)) (h : post (.inl (some (.ref x))) n kd I J P) : RuZ Z own cc nL ret nm d post kc ks pc ls [.ref x] n kd I J P := by
  intro p l e R s m args below meth c MC MS A D cA ad Qc XC free H locs cells slots lsC C r wf wl ws hl hc hs he
  subst hr
  refine W.widen (Nat.le_trans (Nat.le_add_right _ _) hc) (Nat.le_trans (Nat.le_add_right _ _) hs) (vx_ret ?_)
  exact W.aret (cx_x C) (cx_b C) (cx_r C) (Or.inr ⟨_, rfl⟩) (Or.inr ⟨_, rfl⟩) (fun t ht hW => he.2.1 _ n kd I J P ad H locs h r wf (fun w e => by cases e; exact ok_h ws) (Nat.le_refl _) (fun _ _ => rfl) t ht hW) (fun q hq => he.1.1 _ (r.2.2.2.2 q hq)) hd (cx_lk C)
end Rules
