/-! BOTH SIDES TOGETHER -/
theorem gL_pot {len need p : Nat} (h : len < need) (hn : need ≤ 65536) (hp : p ≤ 2 * len ∨ (len = 65536 ∧ p ≤ 196608)) : p + gL 65536 len need ≤ 2 * gL 65536 len need ∨ (gL 65536 len need = 65536 ∧ p + gL 65536 len need ≤ 196608) := by
  unfold gL
  omega
/-- the words of the class beside those of the reference -/
def wS (wc : Nat) (wf kf : Nat → Int32) (cnt : Nat) (sa za fa la : Nat → Int) : Prop := ∀ j, j < cnt → (0 ≤ sa j ∧ 0 ≤ za j ∧ sa j + za j ≤ wc) ∧ la j = za j ∧ 0 ≤ fa j ∧ fa j + la j ≤ 65536 ∧ ∀ i : Nat, (i : Int) < za j → bA wf wc (sa j + i) = bv (kf (fa j + i).toNat)
theorem wS_0 {wc : Nat} {wf kf : Nat → Int32} {sa za fa la : Nat → Int} : wS wc wf kf 0 sa za fa la := fun j h => absurd h (Nat.not_lt_zero j)
theorem wS_of {f g wf kf : Nat → Int32} {ws : List (Int × Int)} {n cnt w ks x : Nat} {sa za fa la : Nat → Int} (h1 : wR ws cnt sa za) (h2 : mR g kf ws w ks fa la) (hks : ks ≤ 65536) (hb : ∀ y ∈ ws, 0 ≤ y.1 ∧ 0 ≤ y.2 ∧ y.1 + y.2 ≤ x) (hwf : ∀ j, j < x → wf j = f j) (hx : x ≤ n) (hfg : ∀ j, j < n → f j = g j) : w = cnt ∧ wS x wf kf cnt sa za fa la := by
  have hw : w = cnt := h2.1.symm.trans h1.1
  refine ⟨hw, fun j hj => ?_⟩
  have e1 := h1.2 j hj
  obtain ⟨x1, z1, b1, e2, e3, e4, e5, e6⟩ := h2.2 j (by omega)
  have e7 : ((sa j, za j) : Int × Int) = ((x1 : Int), (z1 : Int)) := Option.some.inj (e1.symm.trans e2)
  have e8 : sa j = x1 := congrArg Prod.fst e7
  have e9 : za j = z1 := congrArg Prod.snd e7
  have g1 := hb _ (List.mem_of_getElem? e1)
  have g1 : 0 ≤ sa j ∧ 0 ≤ za j ∧ sa j + za j ≤ x := g1
  refine ⟨g1, by omega, by omega, by omega, fun i hi => ?_⟩
  have hi2 : i < z1 := by omega
  rw [e8, e4, bA_in (by omega), show ((x1 : Int) + (i : Int)).toNat = x1 + i by omega, show ((b1 : Int) + (i : Int)).toNat = b1 + i by omega, e6 i hi2, hwf _ (by omega), hfg _ (by omega)]
theorem bA_eq {f g : Nat → Int32} {n : Nat} (h : ∀ j, j < n → f j = g j) : bA g n = bA f n := funext (fun i => (bA_congr h i).symm)
theorem wS_size {wc cnt : Nat} {wf kf : Nat → Int32} {sa za fa la : Nat → Int} (h : wS wc wf kf cnt sa za fa la) (i : Int) : iI (if 0 ≤ i ∧ i < cnt then la i.toNat else -1) = iI (if 0 ≤ i ∧ i < cnt then za i.toNat else -1) := by
  by_cases q : 0 ≤ i ∧ i < cnt
  · rw [if_pos q, if_pos q, (h i.toNat (by omega)).2.1]
  · rw [if_neg q, if_neg q]
theorem wS_byte {wc cnt : Nat} {wf kf : Nat → Int32} {sa za fa la : Nat → Int} (h : wS wc wf kf cnt sa za fa la) (i k : Int) : iI (if (0 ≤ i ∧ i < cnt) ∧ 0 ≤ k ∧ k < la i.toNat then bv (kf (fa i.toNat + k).toNat) else -1) = iI (if (0 ≤ i ∧ i < cnt) ∧ 0 ≤ k ∧ k < za i.toNat then bA wf wc (sa i.toNat + k) else -1) := by
  by_cases q : 0 ≤ i ∧ i < cnt
  · obtain ⟨h1, h2, h3, h4, h5⟩ := h i.toNat (by omega)
    rw [h2]
    by_cases q2 : 0 ≤ k ∧ k < za i.toNat
    · rw [if_pos ⟨q, q2⟩, if_pos ⟨q, q2⟩]
      have := h5 k.toNat (by omega)
      rw [show ((k.toNat : Nat) : Int) = k by omega] at this
      rw [this]
    · rw [if_neg (fun z => q2 z.2), if_neg (fun z => q2 z.2)]
  · rw [if_neg (fun z => q z.1), if_neg (fun z => q z.1)]
theorem wS_z {wc cnt : Nat} {wf kf : Nat → Int32} {sa za fa la : Nat → Int} (h : wS wc wf kf cnt sa za fa la) (hw : wc ≤ 65536) : ∀ j, j < cnt → (0 ≤ sa j ∧ sa j ≤ 65536) ∧ 0 ≤ za j ∧ za j ≤ 65536 := fun j hj => by
  have := (h j hj).1
  omega
theorem wS_m {wc cnt : Nat} {wf kf : Nat → Int32} {sa za fa la : Nat → Int} (h : wS wc wf kf cnt sa za fa la) : ∀ j, j < cnt → (0 ≤ fa j ∧ 0 ≤ la j) ∧ fa j + la j ≤ 65536 := fun j hj => by
  obtain ⟨h1, h2, h3, h4, -⟩ := h j hj
  omega
