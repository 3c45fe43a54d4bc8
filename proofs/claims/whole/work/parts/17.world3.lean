/-! THE REFERENCE's bytes: with their sign -/
theorem nar_fit {x : Int32} (h : fits .byte (.int x) = true) : vp_nar .byte x = x := by
  obtain ⟨h1, h2⟩ := by_sgn h
  obtain ⟨z, hz, rfl⟩ := iI_of x
  rw [iI_toInt hz] at h1 h2
  have key : ∀ k : Fin 256, vp_nar .byte (iI ((k.val : Int) - 128)) = iI ((k.val : Int) - 128) := by decide +kernel
  have := key ⟨(z + 128).toNat, by omega⟩
  rw [show (((⟨(z + 128).toNat, by omega⟩ : Fin 256).val : Int) - 128) = z by show (((z + 128).toNat : Nat) : Int) - 128 = z; omega] at this
  exact this
theorem bv_sg {x : Int32} (h : fits .byte (.int x) = true) : (0 ≤ x.toInt ∧ x.toInt ≤ 127 ∧ bv x = x.toInt) ∨ (-128 ≤ x.toInt ∧ x.toInt < 0 ∧ bv x = x.toInt + 256) := by
  obtain ⟨h1, h2⟩ := by_sgn h
  obtain ⟨z, hz, rfl⟩ := iI_of x
  rw [iI_toInt hz] at h1 h2 ⊢
  have key : ∀ k : Fin 256, bv (iI ((k.val : Int) - 128)) = if (k.val : Int) - 128 < 0 then (k.val : Int) - 128 + 256 else (k.val : Int) - 128 := by decide +kernel
  have := key ⟨(z + 128).toNat, by omega⟩
  rw [show (((⟨(z + 128).toNat, by omega⟩ : Fin 256).val : Int) - 128) = z by show (((z + 128).toNat : Nat) : Int) - 128 = z; omega] at this
  by_cases q : z < 0
  · rw [if_pos q] at this; exact Or.inr ⟨h1, q, this⟩
  · rw [if_neg q] at this; exact Or.inl ⟨by omega, h2, this⟩
/-- a byte of the reference's input beside the accessor -/
theorem mA {f : Nat → Int32} (hf : sb_Fit f) (n : Nat) (i : Int) (h : 0 ≤ i ∧ i < n) : (0 ≤ (f i.toNat).toInt ∧ (f i.toNat).toInt ≤ 127 ∧ bA f n i = (f i.toNat).toInt) ∨ (-128 ≤ (f i.toNat).toInt ∧ (f i.toNat).toInt < 0 ∧ bA f n i = (f i.toNat).toInt + 256) := by
  rw [bA_in h]
  exact bv_sg (hf _)
/-- the low byte of a number shifted with its sign is that of the number shifted without -/
theorem nb_s (x : Int32) (k : Int) (h : k = 24 ∨ k = 16 ∨ k = 8 ∨ k = 0) : (x >>> (iI k &&& 31)).toInt8.toInt32 = nb x k := by
  unfold nb
  have e : ∀ (y z : Int32), (∀ i, i < 8 → y.toBitVec.getLsbD i = z.toBitVec.getLsbD i) → y.toInt8.toInt32 = z.toInt8.toInt32 := by
    intro y z hyz
    have : y.toInt8 = z.toInt8 := by
      apply Int8.toBitVec.inj
      apply BitVec.eq_of_getLsbD_eq
      intro i hi
      have := hyz i hi
      simp only [Int32.toBitVec_toInt8, BitVec.getLsbD_signExtend]
      simp only [hi, decide_true, Bool.true_and]
      rw [if_pos (by omega), if_pos (by omega)]
      exact this
    rw [this]
  apply e
  intro i hi
  have hs : ((iI k &&& 31).toBitVec.smod 32).toNat = k.toNat := by rcases h with rfl | rfl | rfl | rfl <;> decide
  have hu : (((iI k).toUInt32 &&& Int32.toUInt32 31).toBitVec % 32).toNat = k.toNat := by rcases h with rfl | rfl | rfl | rfl <;> decide
  have a1 : (x >>> (iI k &&& 31)).toBitVec = x.toBitVec.sshiftRight ((iI k &&& 31).toBitVec.smod 32).toNat := by
    first | exact Int32.toBitVec_shiftRight x _ | rfl
  have a2 : ((x.toUInt32 >>> ((iI k).toUInt32 &&& Int32.toUInt32 31)).toInt32).toBitVec = x.toBitVec >>> ((((iI k).toUInt32 &&& Int32.toUInt32 31).toBitVec % 32).toNat) := by
    first | rfl | (simp [UInt32.toBitVec_shiftRight]; done)
  rw [a1, a2, hs, hu, BitVec.getLsbD_sshiftRight, BitVec.getLsbD_ushiftRight]
  have hk : k.toNat ≤ 24 := by omega
  rw [if_pos (by omega)]
  simp
  omega
