/-! ARRAYS: stores and copies by naturals -/
section VY
variable {p : Program} {l : Launch} {e : Env} {R : Room} {s : State} {m : MethodId} {args : Array Value} {below : List Frame} {meth : Method} {c : Code} {H : Heap} {locs : List Loc} {cells slots : Nat} {Q : State → Prop}
variable {cc : ByteArray} {pc : Nat} {ls : Array Slot} {rest : List Value} {D : va_G} {cl : List vw_C} {A : Nat → Prop} {a : Nat} {tys : List (ClassId × FieldType)} {ws : va_W} {H0 : Heap}
theorem lx_copy (hexec : p.tables.exec = Jvm.exec) (hb : c.code = cc) (hml : c.maxLocals = ls.size) {own : String} {index : Nat} (hown : s.vm.findClass own = some m.cls) (hlink : (Cond.methodLink own index arraycopyName).before args s = true) (hnat : (Cond.native arraycopyName).before args s = true) (hstat : (Cond.static arraycopyName).before args s = true) (hini : (Cond.initialized "java/lang/System").before args s = true)
    (hK : va_K D cl tys s) (hP : va_P D cl ws H) (hD : va_D A ws) (hS : va_S A H0 H locs) (q0 q1 t0 t1 : Nat) {a0 : Nat} {c0 c1 : ClassId} {n0 n1 : Nat} {f g : Nat → Int32} {ty : FieldType} (ha0 : ws[q0]? = some (a0, .inl (c0, n0, .inl f))) (ha1 : ws[q1]? = some (a, .inl (c1, n1, .inl g))) (ht0 : tys[t0]? = some (c0, ty)) (ht1 : tys[t1]? = some (c1, ty)) (hprim : refKind ty = false)
    {sp dp n : Int} (sN dN nN : Nat) (e1 : sp = sN) (e2 : dp = dN) (e3 : n = nN) (hbd : n0 ≤ 65536 ∧ n1 ≤ 65536) (h4 : sN + nN ≤ n0) (h5 : dN + nN ≤ n1) (hfit : ∀ i, i < n0 → fits ty (.int (f i)) = true)
    (hframes : 1 ≤ R.frames) (hlocals : (rest.map fun v => v.category).sum + (nativeFrameWords "java/lang/System" "arraycopy" 5 + 11) ≤ R.locals) (hdg : decode cc pc = .ok (.invokestatic index, 3))
    (kk : ∀ (H1 : Heap) (locs1 : List Loc), va_P D cl (ws.set q1 (a, .inl (c1, n1, .inl (va_cpy f g sN dN nN)))) H1 → va_D A (ws.set q1 (a, .inl (c1, n1, .inl (va_cpy f g sN dN nN)))) → va_S A H0 H1 locs1 → W p l e R s m args below meth c H1 locs1 cells slots Q (F0 m (pc + 3) ls rest)) : W p l e R s m args below meth c H locs cells slots Q (F0 m pc ls (.int (iI n) :: .int (iI dp) :: .ref a :: .int (iI sp) :: .ref a0 :: rest)) := by
  subst e1; subst e2; subst e3
  have r1 : (iI (sN : Int)).toNatClampNeg = sN := iI_clN (by omega)
  have r2 : (iI (dN : Int)).toNatClampNeg = dN := iI_clN (by omega)
  have r3 : (iI (nN : Int)).toNatClampNeg = nN := iI_clN (by omega)
  refine va_copyi hexec hb hml hown hlink hnat hstat hini hK hP hD hS q0 q1 t0 t1 ha0 ha1 ht0 ht1 hprim (iI_nn (by omega)) (iI_nn (by omega)) (iI_nn (by omega)) (by rw [r1, r3]; exact h4) (by rw [r2, r3]; exact h5) (by rw [r1, r3]; exact fun i hi => hfit _ (by omega)) hframes hlocals hdg ?_
  rw [r1, r2, r3]
  exact kk
theorem lx_bast (hexec : p.tables.exec = Jvm.exec) (hb : c.code = cc) (hK : va_K D cl tys s) (hP : va_P D cl ws H) (hD : va_D A ws) (hS : va_S A H0 H locs) (q0 t0 : Nat) {cA : ClassId} {n : Nat} {f : Nat → Int32} (ha : ws[q0]? = some (a, .inl (cA, n, .inl f))) (ht : tys[t0]? = some (cA, .byte)) {i : Int} (iN : Nat) {x v : Int32} (e1 : i = iN) (hin : iN < n ∧ n ≤ 65536) (hv : vp_nar .byte x = v) (hdg : decode cc pc = .ok (.bastore, 1))
    (kk : ∀ (H1 : Heap) (locs1 : List Loc), va_P D cl (ws.set q0 (a, .inl (cA, n, .inl (upd f iN v)))) H1 → va_D A (ws.set q0 (a, .inl (cA, n, .inl (upd f iN v)))) → va_S A H0 H1 locs1 → W p l e R s m args below meth c H1 locs1 cells slots Q (F0 m (pc + 1) ls rest)) : W p l e R s m args below meth c H locs cells slots Q (F0 m pc ls (.int x :: .int (iI i) :: .ref a :: rest)) := by
  subst e1; subst hv
  have r1 : (iI (iN : Int)).toNatClampNeg = iN := iI_clN (by omega)
  refine va_bast hexec hb hK hP hD hS q0 t0 ha ht (iI_in (by omega)) hdg ?_
  rw [r1]
  exact kk
theorem lx_iast (hexec : p.tables.exec = Jvm.exec) (hb : c.code = cc) (hK : va_K D cl tys s) (hP : va_P D cl ws H) (hD : va_D A ws) (hS : va_S A H0 H locs) (q0 t0 : Nat) {cA : ClassId} {n : Nat} {f : Nat → Int32} (ha : ws[q0]? = some (a, .inl (cA, n, .inl f))) (ht : tys[t0]? = some (cA, .int)) {i : Int} (iN : Nat) {x : Int32} (e1 : i = iN) (hin : iN < n ∧ n ≤ 65536) (hdg : decode cc pc = .ok (.iastore, 1))
    (kk : ∀ (H1 : Heap) (locs1 : List Loc), va_P D cl (ws.set q0 (a, .inl (cA, n, .inl (upd f iN x)))) H1 → va_D A (ws.set q0 (a, .inl (cA, n, .inl (upd f iN x)))) → va_S A H0 H1 locs1 → W p l e R s m args below meth c H1 locs1 cells slots Q (F0 m (pc + 1) ls rest)) : W p l e R s m args below meth c H locs cells slots Q (F0 m pc ls (.int x :: .int (iI i) :: .ref a :: rest)) := by
  subst e1
  have r1 : (iI (iN : Int)).toNatClampNeg = iN := iI_clN (by omega)
  refine va_iast hexec hb hK hP hD hS q0 t0 ha ht (iI_in (by omega)) hdg ?_
  rw [r1]
  exact kk
end VY
/-- the byte of a number that a row keeps -/
def nb (x : Int32) (k : Int) : Int32 := ((x.toUInt32 >>> ((iI k).toUInt32 &&& Int32.toUInt32 31)).toInt32).toInt8.toInt32
theorem nb_nar (x : Int32) (k : Int) : vp_nar .byte (nb x k) = nb x k := pk_vb _
theorem nb_fit (x : Int32) (k : Int) : fits .byte (.int (nb x k)) = true := pk_fb _
/-- a byte with its sign, and without -/
theorem by_sgn {x : Int32} (h : fits .byte (.int x) = true) : -128 ≤ x.toInt ∧ x.toInt ≤ 127 := by
  simp only [fits, Bool.and_eq_true, decide_eq_true_eq] at h
  have h1 := Int32.le_iff_toInt_le.mp h.1
  have h2 := Int32.le_iff_toInt_le.mp h.2
  have e1 : (-128 : Int32).toInt = -128 := by decide
  have e2 : (127 : Int32).toInt = 127 := by decide
  omega
/-! ints of an array by their integers -/
def updZ (a : Nat → Int) (n : Nat) (v : Int) : Nat → Int := fun k => if k = n then v else a k
def cpyZ (a : Nat → Int) (n : Nat) : Nat → Int := fun k => if k < n then a k else 0
theorem up_iI (a : Nat → Int) (n : Nat) (v : Int) : upd (fun k => iI (a k)) n (iI v) = fun k => iI (updZ a n v k) := by
  funext k
  simp only [upd, updZ]
  split <;> rfl
theorem cp_iI (a : Nat → Int) (n : Nat) : va_cpy (fun k => iI (a k)) (fun _ => 0) 0 0 n = fun k => iI (cpyZ a n k) := by
  funext k
  by_cases h : k < n
  · rw [pk_cpy_in (Nat.zero_le _) (by omega), Nat.sub_zero, Nat.zero_add]
    simp only [cpyZ]
    rw [if_pos h]
  · rw [pk_cpy_out (by omega)]
    simp only [cpyZ]
    rw [if_neg h]
    exact iI_0.symm
theorem updZ_s (a : Nat → Int) (n : Nat) (v : Int) : updZ a n v n = v := if_pos rfl
theorem updZ_n (a : Nat → Int) {n k : Nat} (v : Int) (h : k ≠ n) : updZ a n v k = a k := if_neg h
theorem cpyZ_lt (a : Nat → Int) {n k : Nat} (h : k < n) : cpyZ a n k = a k := if_pos h
theorem nw_if {P : Prop} [Decidable P] : narrow .boolean (.int (iI (if P then 1 else 0))) = .int (iI (if P then 1 else 0)) := by
  by_cases h : P
  · rw [if_pos h]; rfl
  · rw [if_neg h]; rfl
/-- the twenty bytes of a feed -/
def fB (x1 x2 x3 x4 x5 : Int32) : Nat → Int32 := fun j => match j with
  | 0 => nb x1 24 | 1 => nb x1 16 | 2 => nb x1 8 | 3 => nb x1 0
  | 4 => nb x2 24 | 5 => nb x2 16 | 6 => nb x2 8 | 7 => nb x2 0
  | 8 => nb x3 24 | 9 => nb x3 16 | 10 => nb x3 8 | 11 => nb x3 0
  | 12 => nb x4 24 | 13 => nb x4 16 | 14 => nb x4 8 | 15 => nb x4 0
  | 16 => nb x5 24 | 17 => nb x5 16 | 18 => nb x5 8 | _ => nb x5 0
theorem fd_step {f f' g : Nat → Int32} {tc m : Nat} (h : ∀ j, j < m → f (tc + j) = g j) (hk : ∀ j, j < tc + m → f' j = f j) (h0 : f' (tc + m) = g m) (h1 : f' (tc + m + 1) = g (m + 1)) (h2 : f' (tc + m + 2) = g (m + 2)) (h3 : f' (tc + m + 3) = g (m + 3)) : ∀ j, j < m + 4 → f' (tc + j) = g j := by
  intro j hj
  by_cases q : j < m
  · rw [hk (tc + j) (by omega)]; exact h j q
  · rcases (by omega : j = m ∨ j = m + 1 ∨ j = m + 2 ∨ j = m + 3) with rfl | rfl | rfl | rfl
    · exact h0
    · exact h1
    · exact h2
    · exact h3
