/-! WHAT IS CUT, over an accessor: a i is the byte at place i, -1 where there is none; n bytes wait -/
def bA (f : Nat → Int32) (n : Nat) (i : Int) : Int := if 0 ≤ i ∧ i < n then bv (f i.toNat) else -1
theorem bA_rg (f : Nat → Int32) (n : Nat) (i : Int) : -1 ≤ bA f n i ∧ bA f n i ≤ 255 := by
  unfold bA
  split
  · have := bv_in (f i.toNat); omega
  · omega
theorem bA_in {f : Nat → Int32} {n : Nat} {i : Int} (h : 0 ≤ i ∧ i < n) : bA f n i = bv (f i.toNat) := if_pos h
theorem bA_out {f : Nat → Int32} {n : Nat} {i : Int} (h : ¬ (0 ≤ i ∧ i < n)) : bA f n i = -1 := if_neg h
theorem bA_has {f : Nat → Int32} {n : Nat} {i : Int} (h : bA f n i ≠ -1) : 0 ≤ i ∧ i < n := by
  by_cases q : 0 ≤ i ∧ i < n
  · exact q
  · exact absurd (bA_out q) h
theorem bA_ne {f : Nat → Int32} {n : Nat} {i : Int} (h : 0 ≤ i ∧ i < n) : 0 ≤ bA f n i := by
  rw [bA_in h]; exact (bv_in _).1
theorem bA_congr {f g : Nat → Int32} {n : Nat} (h : ∀ j, j < n → f j = g j) (i : Int) : bA f n i = bA g n i := by
  unfold bA
  split
  · rw [h i.toNat (by omega)]
  · rfl
def zStopGo (a : Int → Int) : Nat → Int → Int
  | 0, _ => -1
  | k + 1, i => if a i = 13 ∧ a (i + 1) = 10 then i else zStopGo a k (i + 1)
def zStop (a : Int → Int) (fr : Int) : Int := zStopGo a 14 (fr + 1)
theorem zStopGo_rg (a : Int → Int) : ∀ (k : Nat) (i : Int), zStopGo a k i = -1 ∨ ((i ≤ zStopGo a k i ∧ zStopGo a k i < i + k) ∧ a (zStopGo a k i) = 13 ∧ a (zStopGo a k i + 1) = 10) := by
  intro k
  induction k with
  | zero => intro i; exact Or.inl rfl
  | succ k ih =>
    intro i
    unfold zStopGo
    split
    · rename_i h; exact Or.inr ⟨⟨by omega, by omega⟩, h⟩
    · rcases ih (i + 1) with h | ⟨h, h2⟩
      · exact Or.inl h
      · exact Or.inr ⟨⟨by omega, by omega⟩, h2⟩
theorem zStop_rg (a : Int → Int) (fr : Int) : zStop a fr = -1 ∨ ((fr + 1 ≤ zStop a fr ∧ zStop a fr ≤ fr + 14) ∧ a (zStop a fr) = 13 ∧ a (zStop a fr + 1) = 10) := by
  rcases zStopGo_rg a 14 (fr + 1) with h | ⟨h, h2⟩
  · exact Or.inl h
  · exact Or.inr ⟨⟨h.1, by have := h.2; unfold zStop; omega⟩, h2⟩
def zDig (a : Int → Int) : Nat → Int → Int → Option Int
  | 0, _, x => some x
  | k + 1, i, x => if a i < 48 ∨ 57 < a i then none else zDig a k (i + 1) (x * 10 + (a i - 48))
/-- k digits: the number is below 10^k times the one ahead and one more -/
theorem zDig_rg (a : Int → Int) : ∀ (k : Nat) (i x z M : Int), 0 ≤ x → x ≤ M → zDig a k i x = some z → 0 ≤ z ∧ z < (M + 1) * 10 ^ k := by
  intro k
  induction k with
  | zero => intro i x z M h0 hM h; cases h; simp; omega
  | succ k ih =>
    intro i x z M h0 hM h
    unfold zDig at h
    split at h
    · cases h
    · rename_i q
      obtain ⟨r1, r2⟩ := ih (i + 1) (x * 10 + (a i - 48)) z (M * 10 + 9) (by omega) (by omega) h
      refine ⟨r1, ?_⟩
      have e : (M * 10 + 9 + 1) * 10 ^ k = (M + 1) * 10 ^ (k + 1) := by rw [Int.pow_succ, ← Int.mul_assoc, Int.mul_right_comm]; congr 1; omega
      rw [e] at r2
      exact r2
def zNum (a : Int → Int) (fr st : Int) : Option Int :=
  if st ≤ (if a fr = 45 then fr + 1 else fr) ∨ 6 < st - (if a fr = 45 then fr + 1 else fr) then none
  else (zDig a (st - (if a fr = 45 then fr + 1 else fr)).toNat (if a fr = 45 then fr + 1 else fr) 0).map (fun x => if a fr = 45 then -x else x)
theorem zNum_rg {a : Int → Int} {fr st z : Int} (h : zNum a fr st = some z) : -999999 ≤ z ∧ z ≤ 999999 := by
  unfold zNum at h
  generalize (if a fr = 45 then fr + 1 else fr) = i0 at h
  split at h
  · cases h
  · rename_i q
    cases e : zDig a (st - i0).toNat i0 0 with
    | none => rw [e] at h; cases h
    | some x =>
      rw [e] at h
      have hx := zDig_rg a _ i0 0 x 0 (by omega) (by omega) e
      have h6 : (10 : Int) ^ (st - i0).toNat ≤ 10 ^ 6 := by
        have hk : (st - i0).toNat ≤ 6 := by omega
        generalize (st - i0).toNat = k at hk
        rcases (by omega : k = 0 ∨ k = 1 ∨ k = 2 ∨ k = 3 ∨ k = 4 ∨ k = 5 ∨ k = 6) with r | r | r | r | r | r | r <;> subst r <;> decide
      have h7 : x < 1000000 := by omega
      have h8 : (if a fr = 45 then -x else x) = z := Option.some.inj h
      split at h8 <;> omega
/-- a LINE at fr: the place behind it and its number; -1: bytes are missing, -2: a fault -/
def zLine (a : Int → Int) (n : Nat) (fr least most : Int) : Int × Int :=
  if zStop a fr = -1 then (if 16 ≤ (n : Int) - fr then -2 else -1, 0)
  else match zNum a (fr + 1) (zStop a fr) with
    | none => (-2, 0)
    | some z => if z < least ∨ most < z then (-2, 0) else (zStop a fr + 2, z)
def zEnd (a : Int → Int) (fr : Int) : Int :=
  if a fr = -1 then -1 else if ¬ a fr = 13 then -2 else if a (fr + 1) = -1 then -1 else if a (fr + 1) = 10 then fr + 2 else -2
/-- a word at fr: place, fault, where it lies and how long it is -/
def zWord (a : Int → Int) (n : Nat) (fr : Int) : Int × Int × Int × Int :=
  if a fr = -1 then (-1, 0, 0, 0) else if ¬ a fr = 36 then (-2, 2, 0, 0)
  else if (zLine a n fr 0 16384).1 < 0 then ((zLine a n fr 0 16384).1, if (zLine a n fr 0 16384).1 = -2 then 3 else 0, 0, 0)
  else (zEnd a ((zLine a n fr 0 16384).1 + (zLine a n fr 0 16384).2), if zEnd a ((zLine a n fr 0 16384).1 + (zLine a n fr 0 16384).2) = -2 then 4 else 0, zLine a n fr 0 16384)
def zWords (a : Int → Int) (n : Nat) : Nat → Int → Int → List (Int × Int) → Int × Int × List (Int × Int)
  | 0, pl, ft, ws => (pl, ft, ws)
  | k + 1, pl, ft, ws => if pl < 0 then (pl, ft, ws) else zWords a n k (zWord a n pl).1 (zWord a n pl).2.1 (ws ++ [(zWord a n pl).2.2])
def zLF (a : Int → Int) : Nat → Int → Int
  | 0, _ => -1
  | k + 1, i => if a i = 10 then i else zLF a k (i + 1)
theorem zLF_rg (a : Int → Int) : ∀ (k : Nat) (i : Int), zLF a k i = -1 ∨ ((i ≤ zLF a k i ∧ zLF a k i < i + k) ∧ a (zLF a k i) = 10) := by
  intro k
  induction k with
  | zero => intro i; exact Or.inl rfl
  | succ k ih =>
    intro i
    unfold zLF
    split
    · rename_i h; exact Or.inr ⟨⟨by omega, by omega⟩, h⟩
    · rcases ih (i + 1) with h | ⟨h, h2⟩
      · exact Or.inl h
      · exact Or.inr ⟨⟨by omega, by omega⟩, h2⟩
def zSplit (a : Int → Int) (stop : Int) : Nat → Int → Int → List (Int × Int) → List (Int × Int)
  | 0, _, _, ws => ws
  | k + 1, i, st, ws => if i = stop ∨ a i = 32 then zSplit a stop k (i + 1) (i + 1) (if st < i then ws ++ [(st, i - st)] else ws) else zSplit a stop k (i + 1) st ws
theorem zNum_0 {a : Int → Int} {fr st : Int} (h : st ≤ (if a fr = 45 then fr + 1 else fr) ∨ 6 < st - (if a fr = 45 then fr + 1 else fr)) : zNum a fr st = none := if_pos h
theorem zNum_m {a : Int → Int} {fr st : Int} (h1 : a fr = 45) (h : ¬ (st ≤ fr + 1 ∨ 6 < st - (fr + 1))) : zNum a fr st = (zDig a (st - (fr + 1)).toNat (fr + 1) 0).map (fun x => -x) := by
  unfold zNum
  simp only [if_pos h1]
  rw [if_neg h]
theorem zNum_p {a : Int → Int} {fr st : Int} (h1 : ¬ a fr = 45) (h : ¬ (st ≤ fr ∨ 6 < st - fr)) : zNum a fr st = (zDig a (st - fr).toNat fr 0).map (fun x => x) := by
  unfold zNum
  simp only [if_neg h1]
  rw [if_neg h]
theorem zNum_d {a : Int → Int} {fr st d : Int} (h : -2147483648 ≤ d ∧ d ≤ 2147483647) : -2147483648 ≤ (zNum a fr st).getD d ∧ (zNum a fr st).getD d ≤ 2147483647 := by
  cases e : zNum a fr st with
  | none => exact h
  | some z =>
    have := zNum_rg e
    show -2147483648 ≤ z ∧ z ≤ 2147483647
    omega
theorem zLine_1 {a : Int → Int} {n : Nat} {fr least most : Int} (h : zStop a fr = -1) : zLine a n fr least most = (if 16 ≤ (n : Int) - fr then -2 else -1, 0) := if_pos h
theorem zLine_2 {a : Int → Int} {n : Nat} {fr least most : Int} (h : ¬ zStop a fr = -1) (h2 : ¬ (zNum a (fr + 1) (zStop a fr)).isSome = true) : zLine a n fr least most = (-2, 0) := by
  unfold zLine
  rw [if_neg h]
  cases e : zNum a (fr + 1) (zStop a fr) with
  | none => rfl
  | some z => rw [e] at h2; exact absurd rfl h2
theorem zLine_3 {a : Int → Int} {n : Nat} {fr least most z d : Int} (h : ¬ zStop a fr = -1) (h2 : (zNum a (fr + 1) (zStop a fr)).isSome = true) (hz : z = (zNum a (fr + 1) (zStop a fr)).getD d) (h3 : z < least ∨ most < z) : zLine a n fr least most = (-2, 0) := by
  unfold zLine
  rw [if_neg h]
  cases e : zNum a (fr + 1) (zStop a fr) with
  | none => rfl
  | some y =>
    rw [e] at hz
    have hz : z = y := hz
    subst hz
    show (if z < least ∨ most < z then ((-2 : Int), (0 : Int)) else (zStop a fr + 2, z)) = _
    rw [if_pos h3]
theorem zLine_4 {a : Int → Int} {n : Nat} {fr least most z d : Int} (h : ¬ zStop a fr = -1) (h2 : (zNum a (fr + 1) (zStop a fr)).isSome = true) (hz : z = (zNum a (fr + 1) (zStop a fr)).getD d) (h3 : ¬ (z < least ∨ most < z)) : zLine a n fr least most = (zStop a fr + 2, z) := by
  unfold zLine
  rw [if_neg h]
  cases e : zNum a (fr + 1) (zStop a fr) with
  | none => rw [e] at h2; exact absurd h2 (by decide)
  | some y =>
    rw [e] at hz
    have hz : z = y := hz
    subst hz
    show (if z < least ∨ most < z then ((-2 : Int), (0 : Int)) else (zStop a fr + 2, z)) = _
    rw [if_neg h3]
theorem zEnd_rg (f : Nat → Int32) (n : Nat) (fr : Int) : zEnd (bA f n) fr = -1 ∨ zEnd (bA f n) fr = -2 ∨ (zEnd (bA f n) fr = fr + 2 ∧ fr + 2 ≤ n ∧ 0 ≤ fr) := by
  unfold zEnd
  split
  · exact Or.inl rfl
  · split
    · exact Or.inr (Or.inl rfl)
    · split
      · exact Or.inl rfl
      · split
        · rename_i h1 h2 h3 h4
          have e1 := bA_has h1
          have e2 := bA_has h3
          exact Or.inr (Or.inr ⟨rfl, by omega, by omega⟩)
        · exact Or.inr (Or.inl rfl)
theorem zLine_rg (f : Nat → Int32) (n : Nat) (fr least most : Int) : (zLine (bA f n) n fr least most).1 = -1 ∨ (zLine (bA f n) n fr least most).1 = -2 ∨ ((fr + 3 ≤ (zLine (bA f n) n fr least most).1 ∧ (zLine (bA f n) n fr least most).1 ≤ n) ∧ least ≤ (zLine (bA f n) n fr least most).2 ∧ (zLine (bA f n) n fr least most).2 ≤ most) := by
  rcases zStop_rg (bA f n) fr with h | ⟨h, h13, h10⟩
  · rw [zLine_1 h]
    by_cases q : 16 ≤ (n : Int) - fr
    · rw [if_pos q]; exact Or.inr (Or.inl rfl)
    · rw [if_neg q]; exact Or.inl rfl
  · have e2 := bA_has (f := f) (n := n) (i := zStop (bA f n) fr + 1) (by rw [h10]; decide)
    by_cases q0 : zStop (bA f n) fr = -1
    · rw [zLine_1 q0]
      by_cases q : 16 ≤ (n : Int) - fr
      · rw [if_pos q]; exact Or.inr (Or.inl rfl)
      · rw [if_neg q]; exact Or.inl rfl
    by_cases q : (zNum (bA f n) (fr + 1) (zStop (bA f n) fr)).isSome = true
    · obtain ⟨z, hz⟩ : ∃ z, z = (zNum (bA f n) (fr + 1) (zStop (bA f n) fr)).getD 0 := ⟨_, rfl⟩
      by_cases q3 : z < least ∨ most < z
      · rw [zLine_3 q0 q hz q3]; exact Or.inr (Or.inl rfl)
      · rw [zLine_4 q0 q hz q3]; exact Or.inr (Or.inr ⟨⟨by show fr + 3 ≤ zStop (bA f n) fr + 2; omega, by show zStop (bA f n) fr + 2 ≤ n; omega⟩, by show least ≤ z; omega, by show z ≤ most; omega⟩)
    · rw [zLine_2 q0 q]; exact Or.inr (Or.inl rfl)
theorem zWord_1 {a : Int → Int} {n : Nat} {fr : Int} (h : a fr = -1) : zWord a n fr = (-1, 0, 0, 0) := if_pos h
theorem zWord_2 {a : Int → Int} {n : Nat} {fr : Int} (h : ¬ a fr = -1) (h2 : ¬ a fr = 36) : zWord a n fr = (-2, 2, 0, 0) := by
  unfold zWord; rw [if_neg h, if_pos h2]
theorem zWord_3 {a : Int → Int} {n : Nat} {fr : Int} {L : Int × Int} (hL : L = zLine a n fr 0 16384) (h2 : a fr = 36) (h3 : L.1 < 0) : zWord a n fr = (L.1, if L.1 = -2 then 3 else 0, 0, 0) := by
  subst hL
  unfold zWord; rw [if_neg (by omega), if_neg (by omega), if_pos h3]
theorem zWord_4 {a : Int → Int} {n : Nat} {fr : Int} {L : Int × Int} (hL : L = zLine a n fr 0 16384) (h2 : a fr = 36) (h3 : ¬ L.1 < 0) : zWord a n fr = (zEnd a (L.1 + L.2), if zEnd a (L.1 + L.2) = -2 then 4 else 0, L) := by
  subst hL
  unfold zWord; rw [if_neg (by omega), if_neg (by omega), if_neg h3]
theorem zWord_rg (f : Nat → Int32) (n : Nat) (fr : Int) : (zWord (bA f n) n fr).1 = -1 ∨ (zWord (bA f n) n fr).1 = -2 ∨ ((0 ≤ (zWord (bA f n) n fr).1 ∧ (zWord (bA f n) n fr).1 ≤ n) ∧ (0 ≤ (zWord (bA f n) n fr).2.2.1 ∧ 0 ≤ (zWord (bA f n) n fr).2.2.2 ∧ (zWord (bA f n) n fr).2.2.1 + (zWord (bA f n) n fr).2.2.2 + 2 = (zWord (bA f n) n fr).1 ∧ fr + 3 ≤ (zWord (bA f n) n fr).2.2.1)) := by
  by_cases h : bA f n fr = -1
  · rw [zWord_1 h]; exact Or.inl rfl
  by_cases h2 : bA f n fr = 36
  · obtain ⟨L, hL⟩ : ∃ L, L = zLine (bA f n) n fr 0 16384 := ⟨_, rfl⟩
    have e0 := bA_has h
    have g := zLine_rg f n fr 0 16384
    rw [← hL] at g
    by_cases h3 : L.1 < 0
    · rw [zWord_3 hL h2 h3]
      show L.1 = -1 ∨ L.1 = -2 ∨ _
      omega
    · rw [zWord_4 hL h2 h3]
      have g2 := zEnd_rg f n (L.1 + L.2)
      show zEnd (bA f n) (L.1 + L.2) = -1 ∨ zEnd (bA f n) (L.1 + L.2) = -2 ∨ ((0 ≤ zEnd (bA f n) (L.1 + L.2) ∧ zEnd (bA f n) (L.1 + L.2) ≤ n) ∧ (0 ≤ L.1 ∧ 0 ≤ L.2 ∧ L.1 + L.2 + 2 = zEnd (bA f n) (L.1 + L.2) ∧ fr + 3 ≤ L.1))
      omega
  · rw [zWord_2 h h2]; exact Or.inr (Or.inl rfl)
/-- the words that stand in the rows -/
def wR (ws : List (Int × Int)) (cnt : Nat) (sa za : Nat → Int) : Prop := ws.length = cnt ∧ ∀ j, j < cnt → ws[j]? = some (sa j, za j)
theorem wR_0 {sa za : Nat → Int} : wR [] 0 sa za := ⟨rfl, fun j h => absurd h (Nat.not_lt_zero j)⟩
theorem wR_add {ws : List (Int × Int)} {cnt : Nat} {sa za sa' za' : Nat → Int} {x : Int × Int} (h : wR ws cnt sa za) (hk : ∀ j, j < cnt → sa' j = sa j ∧ za' j = za j) (h1 : sa' cnt = x.1) (h2 : za' cnt = x.2) : wR (ws ++ [x]) (cnt + 1) sa' za' := by
  refine ⟨by rw [List.length_append, h.1]; rfl, fun j hj => ?_⟩
  by_cases q : j < cnt
  · rw [List.getElem?_append_left (by rw [h.1]; exact q), h.2 j q, (hk j q).1, (hk j q).2]
  · have e : j = cnt := by omega
    subst e
    rw [List.getElem?_append_right (by rw [h.1]; exact Nat.le_refl _), h.1, Nat.sub_self, h1, h2]
    rfl
/-- the request of told words: place, fault, words -/
def zCount (a : Int → Int) (n : Nat) : Int × Int × List (Int × Int) :=
  if (zLine a n 0 (-999999) 1024).1 < 0 then ((zLine a n 0 (-999999) 1024).1, if (zLine a n 0 (-999999) 1024).1 = -2 then 1 else 0, [])
  else zWords a n (zLine a n 0 (-999999) 1024).2.toNat (zLine a n 0 (-999999) 1024).1 0 []
theorem zWords_neg {a : Int → Int} {n k : Nat} {pl ft : Int} {ws : List (Int × Int)} (h : pl < 0) : zWords a n k pl ft ws = (pl, ft, ws) := by
  cases k with
  | zero => rfl
  | succ k => exact if_pos h
theorem zWords_suc {a : Int → Int} {n k : Nat} {pl ft : Int} {ws : List (Int × Int)} (h : ¬ pl < 0) : zWords a n (k + 1) pl ft ws = zWords a n k (zWord a n pl).1 (zWord a n pl).2.1 (ws ++ [(zWord a n pl).2.2]) := if_neg h
theorem zCount_neg {a : Int → Int} {n : Nat} {L : Int × Int} (hL : L = zLine a n 0 (-999999) 1024) (h : L.1 < 0) : zCount a n = (L.1, if L.1 = -2 then 1 else 0, []) := by
  subst hL
  exact if_pos h
theorem zCount_pos {a : Int → Int} {n : Nat} {L : Int × Int} (hL : L = zLine a n 0 (-999999) 1024) (h : ¬ L.1 < 0) : zCount a n = zWords a n L.2.toNat L.1 0 [] := by
  subst hL
  exact if_neg h
theorem zSplit_w {a : Int → Int} {stop i st : Int} {k : Nat} {ws : List (Int × Int)} (h : i = stop ∨ a i = 32) (h2 : st < i) : zSplit a stop (k + 1) i st ws = zSplit a stop k (i + 1) (i + 1) (ws ++ [(st, i - st)]) := by
  show (if i = stop ∨ a i = 32 then _ else _) = _
  rw [if_pos h, if_pos h2]
theorem zSplit_s {a : Int → Int} {stop i st : Int} {k : Nat} {ws : List (Int × Int)} (h : i = stop ∨ a i = 32) (h2 : ¬ st < i) : zSplit a stop (k + 1) i st ws = zSplit a stop k (i + 1) (i + 1) ws := by
  show (if i = stop ∨ a i = 32 then _ else _) = _
  rw [if_pos h, if_neg h2]
theorem zSplit_n {a : Int → Int} {stop i st : Int} {k : Nat} {ws : List (Int × Int)} (h : ¬ (i = stop ∨ a i = 32)) : zSplit a stop (k + 1) i st ws = zSplit a stop k (i + 1) st ws := by
  show (if i = stop ∨ a i = 32 then _ else _) = _
  rw [if_neg h]
/-- where the words of a line of its own end, the LF at lf -/
def zLast (a : Int → Int) (lf : Int) : Int := if a (lf - 1) = 13 then lf - 1 else lf
/-- a line of its own: place, fault, words -/
def zPlain (a : Int → Int) (n : Nat) : Int × Int × List (Int × Int) :=
  if zLF a (min n 2048) 0 = -1 then (if 2048 ≤ n then (-2, 5, []) else (-1, 0, []))
  else (zLF a (min n 2048) 0 + 1, 0, zSplit a (zLast a (zLF a (min n 2048) 0)) (zLast a (zLF a (min n 2048) 0) + 1).toNat 0 0 [])
def zCut (a : Int → Int) (n : Nat) : Int × Int × List (Int × Int) := if a 0 = 42 then zCount a n else zPlain a n
theorem zWords_rg (f : Nat → Int32) (n : Nat) : ∀ (k : Nat) (pl ft : Int) (ws : List (Int × Int)), (pl = -1 ∨ pl = -2 ∨ (0 ≤ pl ∧ pl ≤ n)) → (∀ x ∈ ws, 0 ≤ pl → 0 ≤ x.1 ∧ 0 ≤ x.2 ∧ x.1 + x.2 ≤ pl) →
    ((zWords (bA f n) n k pl ft ws).1 = -1 ∨ (zWords (bA f n) n k pl ft ws).1 = -2 ∨ (0 ≤ (zWords (bA f n) n k pl ft ws).1 ∧ (zWords (bA f n) n k pl ft ws).1 ≤ n)) ∧ (∀ x ∈ (zWords (bA f n) n k pl ft ws).2.2, 0 ≤ (zWords (bA f n) n k pl ft ws).1 → 0 ≤ x.1 ∧ 0 ≤ x.2 ∧ x.1 + x.2 ≤ (zWords (bA f n) n k pl ft ws).1) := by
  intro k
  induction k with
  | zero => intro pl ft ws h h2; exact ⟨h, h2⟩
  | succ k ih =>
    intro pl ft ws h h2
    by_cases q : pl < 0
    · rw [zWords_neg q]; exact ⟨h, h2⟩
    · rw [zWords_suc q]
      obtain ⟨V, hV⟩ : ∃ V, V = zWord (bA f n) n pl := ⟨_, rfl⟩
      have g := zWord_rg f n pl
      rw [← hV] at g ⊢
      refine ih _ _ _ (by omega) (fun x hx hp => ?_)
      rcases List.mem_append.mp hx with h3 | h3
      · have := h2 x h3 (by omega); omega
      · rw [List.mem_singleton] at h3
        subst h3
        omega
theorem zCount_rg (f : Nat → Int32) (n : Nat) : ((zCount (bA f n) n).1 = -1 ∨ (zCount (bA f n) n).1 = -2 ∨ (0 ≤ (zCount (bA f n) n).1 ∧ (zCount (bA f n) n).1 ≤ n)) ∧ (∀ x ∈ (zCount (bA f n) n).2.2, 0 ≤ (zCount (bA f n) n).1 → 0 ≤ x.1 ∧ 0 ≤ x.2 ∧ x.1 + x.2 ≤ (zCount (bA f n) n).1) := by
  obtain ⟨L, hL⟩ : ∃ L, L = zLine (bA f n) n 0 (-999999) 1024 := ⟨_, rfl⟩
  have g := zLine_rg f n 0 (-999999) 1024
  rw [← hL] at g
  by_cases q : L.1 < 0
  · rw [zCount_neg hL q]
    exact ⟨by show L.1 = -1 ∨ L.1 = -2 ∨ (0 ≤ L.1 ∧ L.1 ≤ n); omega, fun x hx => absurd hx List.not_mem_nil⟩
  · rw [zCount_pos hL q]
    exact zWords_rg f n _ _ _ _ (by omega) (fun x hx => absurd hx List.not_mem_nil)
theorem zSplit_rg (a : Int → Int) (stop : Int) : ∀ (k : Nat) (i st : Int) (ws : List (Int × Int)), i + k = stop + 1 → 0 ≤ st → st ≤ i → (∀ x ∈ ws, 0 ≤ x.1 ∧ 0 ≤ x.2 ∧ x.1 + x.2 ≤ stop) → ∀ x ∈ zSplit a stop k i st ws, 0 ≤ x.1 ∧ 0 ≤ x.2 ∧ x.1 + x.2 ≤ stop := by
  intro k
  induction k with
  | zero => intro i st ws _ _ _ h; exact h
  | succ k ih =>
    intro i st ws h1 h2 h3 h
    by_cases q : i = stop ∨ a i = 32
    · by_cases q2 : st < i
      · rw [zSplit_w q q2]
        refine ih _ _ _ (by omega) (by omega) (by omega) (fun x hx => ?_)
        rcases List.mem_append.mp hx with h4 | h4
        · exact h x h4
        · rw [List.mem_singleton] at h4
          subst h4
          show 0 ≤ st ∧ 0 ≤ i - st ∧ st + (i - st) ≤ stop
          omega
      · rw [zSplit_s q q2]
        exact ih _ _ _ (by omega) (by omega) (by omega) h
    · rw [zSplit_n q]
      exact ih _ _ _ (by omega) (by omega) (by omega) h
theorem zPlain_rg (f : Nat → Int32) (n : Nat) : ((zPlain (bA f n) n).1 = -1 ∨ (zPlain (bA f n) n).1 = -2 ∨ (0 ≤ (zPlain (bA f n) n).1 ∧ (zPlain (bA f n) n).1 ≤ n)) ∧ (∀ x ∈ (zPlain (bA f n) n).2.2, 0 ≤ (zPlain (bA f n) n).1 → 0 ≤ x.1 ∧ 0 ≤ x.2 ∧ x.1 + x.2 ≤ (zPlain (bA f n) n).1) := by
  obtain ⟨F, hF⟩ : ∃ F, F = zLF (bA f n) (min n 2048) 0 := ⟨_, rfl⟩
  have gF := zLF_rg (bA f n) (min n 2048) 0
  unfold zPlain
  rw [← hF] at gF ⊢
  by_cases q : F = -1
  · rw [if_pos q]
    by_cases q2 : 2048 ≤ n
    · rw [if_pos q2]; exact ⟨Or.inr (Or.inl rfl), fun x hx => absurd hx List.not_mem_nil⟩
    · rw [if_neg q2]; exact ⟨Or.inl rfl, fun x hx => absurd hx List.not_mem_nil⟩
  · rw [if_neg q]
    have hl : 0 ≤ zLast (bA f n) F ∧ zLast (bA f n) F ≤ F := by
      unfold zLast
      by_cases q3 : bA f n (F - 1) = 13
      · rw [if_pos q3]
        have := bA_has (f := f) (n := n) (i := F - 1) (by omega)
        omega
      · rw [if_neg q3]; omega
    refine ⟨by show F + 1 = -1 ∨ F + 1 = -2 ∨ (0 ≤ F + 1 ∧ F + 1 ≤ n); omega, fun x hx _ => ?_⟩
    have := zSplit_rg (bA f n) (zLast (bA f n) F) (zLast (bA f n) F + 1).toNat 0 0 [] (by omega) (by omega) (by omega) (fun x hx => absurd hx List.not_mem_nil) x hx
    show 0 ≤ x.1 ∧ 0 ≤ x.2 ∧ x.1 + x.2 ≤ F + 1
    omega
theorem zCut_rgW (f : Nat → Int32) (n : Nat) : ((zCut (bA f n) n).1 = -1 ∨ (zCut (bA f n) n).1 = -2 ∨ (0 ≤ (zCut (bA f n) n).1 ∧ (zCut (bA f n) n).1 ≤ n)) ∧ (∀ x ∈ (zCut (bA f n) n).2.2, 0 ≤ (zCut (bA f n) n).1 → 0 ≤ x.1 ∧ 0 ≤ x.2 ∧ x.1 + x.2 ≤ (zCut (bA f n) n).1) := by
  unfold zCut
  by_cases q : bA f n 0 = 42
  · rw [if_pos q]; exact zCount_rg f n
  · rw [if_neg q]; exact zPlain_rg f n
theorem zCut_rg (f : Nat → Int32) (n : Nat) : (zCut (bA f n) n).1 = -1 ∨ (zCut (bA f n) n).1 = -2 ∨ (0 ≤ (zCut (bA f n) n).1 ∧ (zCut (bA f n) n).1 ≤ n) := (zCut_rgW f n).1
