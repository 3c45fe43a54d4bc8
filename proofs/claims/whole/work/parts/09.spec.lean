/-! WHAT IS CUT, over an accessor: a i is the byte at place i, -1 where there is none; n bytes wait -/
def bA (f : Nat → Int32) (n : Nat) (i : Int) : Int := if 0 ≤ i ∧ i < n then bv (f i.toNat) else -1
theorem bA_rg (f : Nat → Int32) (n : Nat) (i : Int) : -1 ≤ bA f n i ∧ bA f n i ≤ 255 := by
  unfold bA
  split
  · have := bv_in (f i.toNat); omega
  · omega
theorem bA_in {f : Nat → Int32} {n : Nat} {i : Int} (h : 0 ≤ i ∧ i < n) : bA f n i = bv (f i.toNat) := if_pos h
theorem bA_out {f : Nat → Int32} {n : Nat} {i : Int} (h : ¬ (0 ≤ i ∧ i < n)) : bA f n i = -1 := if_neg h
theorem bA_has {f : Nat → Int32} {n : Nat} {i : Int} (h : bA f n i ≠ -1) : 0 ≤ i ∧ i < n := by
  by_cases q : 0 ≤ i ∧ i < n
  · exact q
  · exact absurd (bA_out q) h
theorem bA_ne {f : Nat → Int32} {n : Nat} {i : Int} (h : 0 ≤ i ∧ i < n) : 0 ≤ bA f n i := by
  rw [bA_in h]; exact (bv_in _).1
theorem bA_congr {f g : Nat → Int32} {n : Nat} (h : ∀ j, j < n → f j = g j) (i : Int) : bA f n i = bA g n i := by
  unfold bA
  split
  · rw [h i.toNat (by omega)]
  · rfl
def zStopGo (a : Int → Int) : Nat → Int → Int
  | 0, _ => -1
  | k + 1, i => if a i = 13 ∧ a (i + 1) = 10 then i else zStopGo a k (i + 1)
def zStop (a : Int → Int) (fr : Int) : Int := zStopGo a 14 (fr + 1)
theorem zStopGo_rg (a : Int → Int) : ∀ (k : Nat) (i : Int), zStopGo a k i = -1 ∨ ((i ≤ zStopGo a k i ∧ zStopGo a k i < i + k) ∧ a (zStopGo a k i) = 13 ∧ a (zStopGo a k i + 1) = 10) := by
  intro k
  induction k with
  | zero => intro i; exact Or.inl rfl
  | succ k ih =>
    intro i
    unfold zStopGo
    split
    · rename_i h; exact Or.inr ⟨⟨by omega, by omega⟩, h⟩
    · rcases ih (i + 1) with h | ⟨h, h2⟩
      · exact Or.inl h
      · exact Or.inr ⟨⟨by omega, by omega⟩, h2⟩
theorem zStop_rg (a : Int → Int) (fr : Int) : zStop a fr = -1 ∨ ((fr + 1 ≤ zStop a fr ∧ zStop a fr ≤ fr + 14) ∧ a (zStop a fr) = 13 ∧ a (zStop a fr + 1) = 10) := by
  rcases zStopGo_rg a 14 (fr + 1) with h | ⟨h, h2⟩
  · exact Or.inl h
  · exact Or.inr ⟨⟨h.1, by have := h.2; unfold zStop; omega⟩, h2⟩
def zDig (a : Int → Int) : Nat → Int → Int → Option Int
  | 0, _, x => some x
  | k + 1, i, x => if a i < 48 ∨ 57 < a i then none else zDig a k (i + 1) (x * 10 + (a i - 48))
/-- k digits: the number is below 10^k times the one ahead and one more -/
theorem zDig_rg (a : Int → Int) : ∀ (k : Nat) (i x z M : Int), 0 ≤ x → x ≤ M → zDig a k i x = some z → 0 ≤ z ∧ z < (M + 1) * 10 ^ k := by
  intro k
  induction k with
  | zero => intro i x z M h0 hM h; cases h; simp; omega
  | succ k ih =>
    intro i x z M h0 hM h
    unfold zDig at h
    split at h
    · cases h
    · rename_i q
      obtain ⟨r1, r2⟩ := ih (i + 1) (x * 10 + (a i - 48)) z (M * 10 + 9) (by omega) (by omega) h
      refine ⟨r1, ?_⟩
      have e : (M * 10 + 9 + 1) * 10 ^ k = (M + 1) * 10 ^ (k + 1) := by rw [Int.pow_succ, ← Int.mul_assoc, Int.mul_right_comm]; congr 1; omega
      rw [e] at r2
      exact r2
def zNum (a : Int → Int) (fr st : Int) : Option Int :=
  if st ≤ (if a fr = 45 then fr + 1 else fr) ∨ 6 < st - (if a fr = 45 then fr + 1 else fr) then none
  else (zDig a (st - (if a fr = 45 then fr + 1 else fr)).toNat (if a fr = 45 then fr + 1 else fr) 0).map (fun x => if a fr = 45 then -x else x)
theorem zNum_rg {a : Int → Int} {fr st z : Int} (h : zNum a fr st = some z) : -999999 ≤ z ∧ z ≤ 999999 := by
  unfold zNum at h
  generalize (if a fr = 45 then fr + 1 else fr) = i0 at h
  split at h
  · cases h
  · rename_i q
    cases e : zDig a (st - i0).toNat i0 0 with
    | none => rw [e] at h; cases h
    | some x =>
      rw [e] at h
      have hx := zDig_rg a _ i0 0 x 0 (by omega) (by omega) e
      have h6 : (10 : Int) ^ (st - i0).toNat ≤ 10 ^ 6 := by
        have hk : (st - i0).toNat ≤ 6 := by omega
        generalize (st - i0).toNat = k at hk
        rcases (by omega : k = 0 ∨ k = 1 ∨ k = 2 ∨ k = 3 ∨ k = 4 ∨ k = 5 ∨ k = 6) with r | r | r | r | r | r | r <;> subst r <;> decide
      have h7 : x < 1000000 := by omega
      have h8 : (if a fr = 45 then -x else x) = z := Option.some.inj h
      split at h8 <;> omega
/-- a LINE at fr: the place behind it and its number; -1: bytes are missing, -2: a fault -/
def zLine (a : Int → Int) (n : Nat) (fr least most : Int) : Int × Int :=
  if zStop a fr = -1 then (if 16 ≤ (n : Int) - fr then -2 else -1, 0)
  else match zNum a (fr + 1) (zStop a fr) with
    | none => (-2, 0)
    | some z => if z < least ∨ most < z then (-2, 0) else (zStop a fr + 2, z)
def zEnd (a : Int → Int) (fr : Int) : Int :=
  if a fr = -1 then -1 else if ¬ a fr = 13 then -2 else if a (fr + 1) = -1 then -1 else if a (fr + 1) = 10 then fr + 2 else -2
/-- a word at fr: place, fault, where it lies and how long it is -/
def zWord (a : Int → Int) (n : Nat) (fr : Int) : Int × Int × Int × Int :=
  if a fr = -1 then (-1, 0, 0, 0) else if ¬ a fr = 36 then (-2, 2, 0, 0)
  else if (zLine a n fr 0 16384).1 < 0 then ((zLine a n fr 0 16384).1, if (zLine a n fr 0 16384).1 = -2 then 3 else 0, 0, 0)
  else (zEnd a ((zLine a n fr 0 16384).1 + (zLine a n fr 0 16384).2), if zEnd a ((zLine a n fr 0 16384).1 + (zLine a n fr 0 16384).2) = -2 then 4 else 0, zLine a n fr 0 16384)
def zWords (a : Int → Int) (n : Nat) : Nat → Int → Int → List (Int × Int) → Int × Int × List (Int × Int)
  | 0, pl, ft, ws => (pl, ft, ws)
  | k + 1, pl, ft, ws => if pl < 0 then (pl, ft, ws) else zWords a n k (zWord a n pl).1 (zWord a n pl).2.1 (ws ++ [(zWord a n pl).2.2])
def zLF (a : Int → Int) : Nat → Int → Int
  | 0, _ => -1
  | k + 1, i => if a i = 10 then i else zLF a k (i + 1)
theorem zLF_rg (a : Int → Int) : ∀ (k : Nat) (i : Int), zLF a k i = -1 ∨ ((i ≤ zLF a k i ∧ zLF a k i < i + k) ∧ a (zLF a k i) = 10) := by
  intro k
  induction k with
  | zero => intro i; exact Or.inl rfl
  | succ k ih =>
    intro i
    unfold zLF
    split
    · rename_i h; exact Or.inr ⟨⟨by omega, by omega⟩, h⟩
    · rcases ih (i + 1) with h | ⟨h, h2⟩
      · exact Or.inl h
      · exact Or.inr ⟨⟨by omega, by omega⟩, h2⟩
def zSplit (a : Int → Int) (stop : Int) : Nat → Int → Int → List (Int × Int) → List (Int × Int)
  | 0, _, _, ws => ws
  | k + 1, i, st, ws => if i = stop ∨ a i = 32 then zSplit a stop k (i + 1) (i + 1) (if st < i then ws ++ [(st, i - st)] else ws) else zSplit a stop k (i + 1) st ws
theorem zNum_0 {a : Int → Int} {fr st : Int} (h : st ≤ (if a fr = 45 then fr + 1 else fr) ∨ 6 < st - (if a fr = 45 then fr + 1 else fr)) : zNum a fr st = none := if_pos h
theorem zNum_m {a : Int → Int} {fr st : Int} (h1 : a fr = 45) (h : ¬ (st ≤ fr + 1 ∨ 6 < st - (fr + 1))) : zNum a fr st = (zDig a (st - (fr + 1)).toNat (fr + 1) 0).map (fun x => -x) := by
  unfold zNum
  simp only [if_pos h1]
  rw [if_neg h]
theorem zNum_p {a : Int → Int} {fr st : Int} (h1 : ¬ a fr = 45) (h : ¬ (st ≤ fr ∨ 6 < st - fr)) : zNum a fr st = (zDig a (st - fr).toNat fr 0).map (fun x => x) := by
  unfold zNum
  simp only [if_neg h1]
  rw [if_neg h]
theorem zNum_d {a : Int → Int} {fr st d : Int} (h : -2147483648 ≤ d ∧ d ≤ 2147483647) : -2147483648 ≤ (zNum a fr st).getD d ∧ (zNum a fr st).getD d ≤ 2147483647 := by
  cases e : zNum a fr st with
  | none => exact h
  | some z =>
    have := zNum_rg e
    show -2147483648 ≤ z ∧ z ≤ 2147483647
    omega
theorem zLine_1 {a : Int → Int} {n : Nat} {fr least most : Int} (h : zStop a fr = -1) : zLine a n fr least most = (if 16 ≤ (n : Int) - fr then -2 else -1, 0) := if_pos h
theorem zLine_2 {a : Int → Int} {n : Nat} {fr least most : Int} (h : ¬ zStop a fr = -1) (h2 : ¬ (zNum a (fr + 1) (zStop a fr)).isSome = true) : zLine a n fr least most = (-2, 0) := by
  unfold zLine
  rw [if_neg h]
  cases e : zNum a (fr + 1) (zStop a fr) with
  | none => rfl
  | some z => rw [e] at h2; exact absurd rfl h2
theorem zLine_3 {a : Int → Int} {n : Nat} {fr least most z d : Int} (h : ¬ zStop a fr = -1) (h2 : (zNum a (fr + 1) (zStop a fr)).isSome = true) (hz : z = (zNum a (fr + 1) (zStop a fr)).getD d) (h3 : z < least ∨ most < z) : zLine a n fr least most = (-2, 0) := by
  unfold zLine
  rw [if_neg h]
  cases e : zNum a (fr + 1) (zStop a fr) with
  | none => rfl
  | some y =>
    rw [e] at hz
    have hz : z = y := hz
    subst hz
    show (if z < least ∨ most < z then ((-2 : Int), (0 : Int)) else (zStop a fr + 2, z)) = _
    rw [if_pos h3]
theorem zLine_4 {a : Int → Int} {n : Nat} {fr least most z d : Int} (h : ¬ zStop a fr = -1) (h2 : (zNum a (fr + 1) (zStop a fr)).isSome = true) (hz : z = (zNum a (fr + 1) (zStop a fr)).getD d) (h3 : ¬ (z < least ∨ most < z)) : zLine a n fr least most = (zStop a fr + 2, z) := by
  unfold zLine
  rw [if_neg h]
  cases e : zNum a (fr + 1) (zStop a fr) with
  | none => rw [e] at h2; exact absurd h2 (by decide)
  | some y =>
    rw [e] at hz
    have hz : z = y := hz
    subst hz
    show (if z < least ∨ most < z then ((-2 : Int), (0 : Int)) else (zStop a fr + 2, z)) = _
    rw [if_neg h3]
