/-! THE REFERENCE's reading of a LINE, beside zLine -/
def mL (a : Int → Int) (n : Nat) (pa : Int) : Int × Int :=
  if zStop a pa = -1 then (if 16 ≤ (n : Int) - pa then -1000001 else -1000000, pa)
  else ((zNum a (pa + 1) (zStop a pa)).getD (-1000001), zStop a pa + 2)
theorem mL_1 {a : Int → Int} {n : Nat} {pa : Int} (h : zStop a pa = -1) : mL a n pa = (if 16 ≤ (n : Int) - pa then -1000001 else -1000000, pa) := if_pos h
theorem mL_2 {a : Int → Int} {n : Nat} {pa i : Int} (h : zStop a pa = i) (hi : ¬ i = -1) : mL a n pa = ((zNum a (pa + 1) i).getD (-1000001), i + 2) := by
  subst h
  exact if_neg hi
theorem zStopGo_out (f : Nat → Int32) (n : Nat) : ∀ (k : Nat) (i : Int), (n : Int) ≤ i + 1 → zStopGo (bA f n) k i = -1 := by
  intro k
  induction k with
  | zero => intro i _; rfl
  | succ k ih =>
    intro i h
    have e : ¬ (bA f n i = 13 ∧ bA f n (i + 1) = 10) := fun q => by
      have := bA_has (f := f) (n := n) (i := i + 1) (by omega)
      omega
    exact (if_neg e).trans (ih (i + 1) (by omega))
theorem zDig_s {a : Int → Int} {k : Nat} {i x : Int} (x' : Int) (h : ¬ (a i < 48 ∨ 57 < a i)) (hx : x' = x * 10 + (a i - 48)) : zDig a (k + 1) i x = zDig a k (i + 1) x' := by
  subst hx
  exact if_neg h
theorem zDig_b {a : Int → Int} {k : Nat} {i x : Int} (h : a i < 48 ∨ 57 < a i) : zDig a (k + 1) i x = none := if_pos h
theorem mL_rel (a : Int → Int) (n : Nat) (pa least most : Int) (hl : -999999 ≤ least ∧ most ≤ 999999) :
    ((mL a n pa).1 = -1000000 ∧ (zLine a n pa least most).1 = -1) ∨ ((mL a n pa).1 = -1000001 ∧ (zLine a n pa least most).1 = -2) ∨ (((mL a n pa).1 < least ∨ most < (mL a n pa).1) ∧ (zLine a n pa least most).1 = -2 ∧ -999999 ≤ (mL a n pa).1 ∧ (mL a n pa).1 ≤ 999999) ∨ ((least ≤ (mL a n pa).1 ∧ (mL a n pa).1 ≤ most) ∧ (zLine a n pa least most).1 = (mL a n pa).2 ∧ (zLine a n pa least most).2 = (mL a n pa).1) := by
  by_cases h : zStop a pa = -1
  · rw [mL_1 h, zLine_1 h]
    by_cases q : 16 ≤ (n : Int) - pa
    · rw [if_pos q, if_pos q]; exact Or.inr (Or.inl ⟨rfl, rfl⟩)
    · rw [if_neg q, if_neg q]; exact Or.inl ⟨rfl, rfl⟩
  · rw [mL_2 rfl h]
    by_cases q : (zNum a (pa + 1) (zStop a pa)).isSome = true
    · obtain ⟨z, hz⟩ : ∃ z, z = (zNum a (pa + 1) (zStop a pa)).getD (-1000001) := ⟨_, rfl⟩
      have hr : -999999 ≤ z ∧ z ≤ 999999 := by
        cases e : zNum a (pa + 1) (zStop a pa) with
        | none => rw [e] at q; exact absurd q (by decide)
        | some y => rw [e] at hz; have := zNum_rg e; rw [show z = y from hz]; exact this
      rw [← hz]
      by_cases q3 : z < least ∨ most < z
      · rw [zLine_3 h q hz q3]; exact Or.inr (Or.inr (Or.inl ⟨q3, rfl, hr⟩))
      · rw [zLine_4 h q hz q3]; exact Or.inr (Or.inr (Or.inr ⟨by show least ≤ z ∧ z ≤ most; omega, rfl, rfl⟩))
    · rw [zLine_2 h q]
      have e : zNum a (pa + 1) (zStop a pa) = none := by
        cases e : zNum a (pa + 1) (zStop a pa) with
        | none => rfl
        | some y => rw [e] at q; exact absurd rfl q
      rw [e]
      exact Or.inr (Or.inl ⟨rfl, rfl⟩)
theorem mL_rg (f : Nat → Int32) (n : Nat) (pa : Int) (hp : 0 ≤ pa) : (-1000001 ≤ (mL (bA f n) n pa).1 ∧ (mL (bA f n) n pa).1 ≤ 999999) ∧ pa ≤ (mL (bA f n) n pa).2 ∧ ((mL (bA f n) n pa).2 ≤ n ∨ (mL (bA f n) n pa).2 = pa) := by
  have g := mL_rel (bA f n) n pa (-999999) 999999 (by omega)
  have g2 : pa ≤ (mL (bA f n) n pa).2 ∧ ((mL (bA f n) n pa).2 ≤ n ∨ (mL (bA f n) n pa).2 = pa) := by
    rcases zStop_rg (bA f n) pa with h | ⟨h, h13, h10⟩
    · rw [mL_1 h]; exact ⟨by show pa ≤ pa; omega, Or.inr rfl⟩
    · rw [mL_2 rfl (by omega)]
      have := bA_has (f := f) (n := n) (i := zStop (bA f n) pa + 1) (by omega)
      exact ⟨by show pa ≤ zStop (bA f n) pa + 2; omega, Or.inl (by show zStop (bA f n) pa + 2 ≤ n; omega)⟩
  exact ⟨by omega, g2⟩
theorem bA_or (f : Nat → Int32) (n : Nat) (i : Int) (h : 0 ≤ i) : ((n : Int) ≤ i ∧ bA f n i = -1) ∨ (i < n ∧ 0 ≤ bA f n i ∧ bA f n i ≤ 255) := by
  by_cases q : i < n
  · exact Or.inr ⟨q, bA_ne ⟨h, q⟩, (bA_rg f n i).2⟩
  · exact Or.inl ⟨by omega, bA_out (by omega)⟩
theorem mu_of {P Q : Prop} [Decidable P] [Decidable Q] {r : Int32} {u x y : Int} (h : r = iI (if P then 0 else if Q then 1 else -1)) (h2 : u = (if P then x else y)) : ∃ s : Int, ((P ∧ s = 0 ∧ u = x) ∨ (¬ P ∧ Q ∧ s = 1 ∧ u = y) ∨ (¬ P ∧ ¬ Q ∧ s = -1 ∧ u = y)) ∧ r = iI s := by
  by_cases p : P
  · rw [if_pos p] at h h2; exact ⟨0, Or.inl ⟨p, rfl, h2⟩, h⟩
  · rw [if_neg p] at h h2
    by_cases q : Q
    · rw [if_pos q] at h; exact ⟨1, Or.inr (Or.inl ⟨p, q, rfl, h2⟩), h⟩
    · rw [if_neg q] at h; exact ⟨-1, Or.inr (Or.inr ⟨p, q, rfl, h2⟩), h⟩
/-- the words that the reference keeps, beside where they lay in the input f -/
def mR (f kf : Nat → Int32) (ws : List (Int × Int)) (w ks : Nat) (fa la : Nat → Int) : Prop :=
  ws.length = w ∧ ∀ j, j < w → ∃ x z b : Nat, ws[j]? = some ((x : Int), (z : Int)) ∧ la j = z ∧ fa j = b ∧ b + z ≤ ks ∧ ∀ i, i < z → kf (b + i) = f (x + i)
theorem mR_0 {f kf : Nat → Int32} {fa la : Nat → Int} : mR f kf [] 0 0 fa la := ⟨rfl, fun j h => absurd h (Nat.not_lt_zero j)⟩
theorem mR_add {f kf kf' : Nat → Int32} {ws : List (Int × Int)} {w ks x z : Nat} {fa la : Nat → Int} (h : mR f kf ws w ks fa la) (hk : ∀ j, j < ks → kf' j = kf j) (hn : ∀ j, j < z → kf' (ks + j) = f (x + j)) : mR f kf' (ws ++ [((x : Int), (z : Int))]) (w + 1) (ks + z) (updZ fa w (ks : Int)) (updZ la w (z : Int)) := by
  refine ⟨by rw [List.length_append, h.1]; rfl, fun j hj => ?_⟩
  by_cases q : j < w
  · obtain ⟨x1, z1, b1, h1, h2, h3, h4, h5⟩ := h.2 j q
    refine ⟨x1, z1, b1, by rw [List.getElem?_append_left (by rw [h.1]; exact q)]; exact h1, (updZ_n _ _ (by omega)).trans h2, (updZ_n _ _ (by omega)).trans h3, by omega, fun i hi => ?_⟩
    rw [hk _ (by omega)]
    exact h5 i hi
  · have e : j = w := by omega
    subst e
    refine ⟨x, z, ks, by rw [List.getElem?_append_right (by rw [h.1]; exact Nat.le_refl _), h.1, Nat.sub_self]; rfl, updZ_s _ _ _, updZ_s _ _ _, Nat.le_refl _, hn⟩
theorem nw_01 {b : Int} (h : b = 0 ∨ b = 1) : narrow .boolean (.int (iI b)) = .int (iI b) := by
  rcases h with rfl | rfl <;> rfl
theorem zS_n {a : Int → Int} {T e c : Int} {ws : List (Int × Int)} (h : e < T) (hb : ¬ a e = 32) : zSplit a T (T + 1 - e).toNat e c ws = zSplit a T (T + 1 - (e + 1)).toNat (e + 1) c ws := by
  rw [show (T + 1 - e).toNat = (T + 1 - (e + 1)).toNat + 1 by omega]
  exact zSplit_n (by omega)
theorem zS_w {a : Int → Int} {T e c : Int} {ws : List (Int × Int)} (h : e ≤ T) (hb : e = T ∨ a e = 32) (h2 : c < e) : zSplit a T (T + 1 - e).toNat e c ws = zSplit a T (T + 1 - (e + 1)).toNat (e + 1) (e + 1) (ws ++ [(c, e - c)]) := by
  rw [show (T + 1 - e).toNat = (T + 1 - (e + 1)).toNat + 1 by omega]
  exact zSplit_w hb h2
theorem zS_s {a : Int → Int} {T e c : Int} {ws : List (Int × Int)} (h : e ≤ T) (hb : e = T ∨ a e = 32) (h2 : ¬ c < e) : zSplit a T (T + 1 - e).toNat e c ws = zSplit a T (T + 1 - (e + 1)).toNat (e + 1) (e + 1) ws := by
  rw [show (T + 1 - e).toNat = (T + 1 - (e + 1)).toNat + 1 by omega]
  exact zSplit_s hb h2
theorem zS_e {a : Int → Int} {T c : Int} {ws : List (Int × Int)} (h : T ≤ c ∧ c ≤ T + 1) : zSplit a T (T + 1 - c).toNat c c ws = ws := by
  by_cases q : c = T
  · subst q
    rw [zS_s (Int.le_refl _) (Or.inl rfl) (by omega), show (c + 1 - (c + 1)).toNat = 0 by omega]
    rfl
  · rw [show (T + 1 - c).toNat = 0 by omega]
    rfl
/-- a fault has its number -/
theorem zWord_ft (a : Int → Int) (n : Nat) (fr : Int) : (zWord a n fr).1 = -2 → 1 ≤ (zWord a n fr).2.1 ∧ (zWord a n fr).2.1 ≤ 5 := by
  unfold zWord
  split
  · intro h; exact absurd h (by decide)
  · split
    · intro _; exact ⟨by decide, by decide⟩
    · split
      · intro h
        have h : (zLine a n fr 0 16384).1 = -2 := h
        show 1 ≤ (if (zLine a n fr 0 16384).1 = -2 then (3 : Int) else 0) ∧ (if (zLine a n fr 0 16384).1 = -2 then (3 : Int) else 0) ≤ 5
        rw [if_pos h]; exact ⟨by decide, by decide⟩
      · intro h
        have h : zEnd a ((zLine a n fr 0 16384).1 + (zLine a n fr 0 16384).2) = -2 := h
        show 1 ≤ (if zEnd a ((zLine a n fr 0 16384).1 + (zLine a n fr 0 16384).2) = -2 then (4 : Int) else 0) ∧ (if zEnd a ((zLine a n fr 0 16384).1 + (zLine a n fr 0 16384).2) = -2 then (4 : Int) else 0) ≤ 5
        rw [if_pos h]; exact ⟨by decide, by decide⟩
theorem zWords_ft (a : Int → Int) (n : Nat) : ∀ (k : Nat) (pl ft : Int) (ws : List (Int × Int)), (pl = -2 → 1 ≤ ft ∧ ft ≤ 5) → (zWords a n k pl ft ws).1 = -2 → 1 ≤ (zWords a n k pl ft ws).2.1 ∧ (zWords a n k pl ft ws).2.1 ≤ 5 := by
  intro k
  induction k with
  | zero => intro pl ft ws h; exact h
  | succ k ih =>
    intro pl ft ws h
    by_cases q : pl < 0
    · rw [zWords_neg q]; exact h
    · rw [zWords_suc q]; exact ih _ _ _ (zWord_ft a n pl)
theorem zCut_ft (a : Int → Int) (n : Nat) : (zCut a n).1 = -2 → 1 ≤ (zCut a n).2.1 ∧ (zCut a n).2.1 ≤ 5 := by
  unfold zCut
  split
  · obtain ⟨L, hL⟩ : ∃ L, L = zLine a n 0 (-999999) 1024 := ⟨_, rfl⟩
    by_cases q : L.1 < 0
    · rw [zCount_neg hL q]
      intro h
      have h : L.1 = -2 := h
      show 1 ≤ (if L.1 = -2 then (1 : Int) else 0) ∧ (if L.1 = -2 then (1 : Int) else 0) ≤ 5
      rw [if_pos h]; exact ⟨by decide, by decide⟩
    · rw [zCount_pos hL q]
      exact zWords_ft a n _ _ _ _ (fun h => by omega)
  · unfold zPlain
    split
    · split
      · intro _; exact ⟨by decide, by decide⟩
      · intro h; exact absurd h (by decide)
    · rename_i h0
      intro h
      have h : zLF a (min n 2048) 0 + 1 = -2 := h
      rcases zLF_rg a (min n 2048) 0 with g | ⟨g, _⟩
      · exact absurd g h0
      · omega
