set_option maxHeartbeats 4000000 in
set_option maxRecDepth 100000 in
/-- cutLine() -/
theorem c_X3_cutLine (l : Launch) (dC : Nat → ClassId) (dI : Nat → Nat → Nat) (cB cI : ClassId) (sz : Nat) (m0 mt mi mk mf ml tc n : Nat) (f kf : Nat → Int32) (fa la : Nat → Int) (hn0 : 0 < n) (hn : n ≤ 65536) (hfit : sb_Fit f) (hkf : sb_Fit kf) : Met l yX3_cutLine wX3_cutLine ({ frames := 1, cells := 0, slots := 0, locals := 23 }) (va_Pc [.ref m0] (vx_B (dC, dI) vwCl [(cB, .byte), (cI, .int)] [(m0, .inr (3, [.ref mt, .ref mi, .ref mk, .ref mf, .ref ml, .int (iI ((tc : Int))), .int (iI ((n : Int))), .int (iI (((0 : Nat) : Int))), .int (iI (((0 : Nat) : Int))), .int (iI (0)), .int (iI (0))])), (mi, .inl (cB, 65536, .inl (f))), (mk, .inl (cB, 65536, .inl (kf))), (mf, .inl (cI, 1025, .inl (fun k => iI (fa k)))), (ml, .inl (cI, 1025, .inl (fun k => iI (la k))))] sz)) (va_Qi (fun (r : Int32) (u : Int × Int × Nat × Nat × (Nat → Int32) × (Nat → Int) × (Nat → Int)) => r = iI (if 0 ≤ (zPlain (bA f n) n).1 then 1 else 0) ∧ u.1 = (if (zPlain (bA f n) n).1 = -2 then (zPlain (bA f n) n).2.1 else 0) ∧ sb_Fit u.2.2.2.2.1 ∧ (0 ≤ (zPlain (bA f n) n).1 → u.2.1 = (zPlain (bA f n) n).1 ∧ mR f u.2.2.2.2.1 (zPlain (bA f n) n).2.2 u.2.2.1 u.2.2.2.1 u.2.2.2.2.2.1 u.2.2.2.2.2.2 ∧ u.2.2.1 ≤ 1024 ∧ (u.2.2.2.1 : Int) ≤ (zPlain (bA f n) n).1)) (fun (u : Int × Int × Nat × Nat × (Nat → Int32) × (Nat → Int) × (Nat → Int)) => vx_E (dC, dI) vwCl [(cB, .byte), (cI, .int)] (va_A [(m0, .inr (3, [.ref mt, .ref mi, .ref mk, .ref mf, .ref ml, .int (iI ((tc : Int))), .int (iI ((n : Int))), .int (iI (((0 : Nat) : Int))), .int (iI (((0 : Nat) : Int))), .int (iI (0)), .int (iI (0))])), (mi, .inl (cB, 65536, .inl (f))), (mk, .inl (cB, 65536, .inl (kf))), (mf, .inl (cI, 1025, .inl (fun k => iI (fa k)))), (ml, .inl (cI, 1025, .inl (fun k => iI (la k))))] sz) [(m0, .inr (3, [.ref mt, .ref mi, .ref mk, .ref mf, .ref ml, .int (iI ((tc : Int))), .int (iI ((n : Int))), .int (iI ((u.2.2.1 : Int))), .int (iI ((u.2.2.2.1 : Int))), .int (iI (u.1)), .int (iI (u.2.1))])), (mi, .inl (cB, 65536, .inl (f))), (mk, .inl (cB, 65536, .inl (u.2.2.2.2.1))), (mf, .inl (cI, 1025, .inl (fun k => iI (u.2.2.2.2.2.1 k)))), (ml, .inl (cI, 1025, .inl (fun k => iI (u.2.2.2.2.2.2 k))))]) (va_A [(m0, .inr (3, [.ref mt, .ref mi, .ref mk, .ref mf, .ref ml, .int (iI ((tc : Int))), .int (iI ((n : Int))), .int (iI (((0 : Nat) : Int))), .int (iI (((0 : Nat) : Int))), .int (iI (0)), .int (iI (0))])), (mi, .inl (cB, 65536, .inl (f))), (mk, .inl (cB, 65536, .inl (kf))), (mf, .inl (cI, 1025, .inl (fun k => iI (fa k)))), (ml, .inl (cI, 1025, .inl (fun k => iI (la k))))] sz)) (0) (0) (va_A [(m0, .inr (3, [.ref mt, .ref mi, .ref mk, .ref mf, .ref ml, .int (iI ((tc : Int))), .int (iI ((n : Int))), .int (iI (((0 : Nat) : Int))), .int (iI (((0 : Nat) : Int))), .int (iI (0)), .int (iI (0))])), (mi, .inl (cB, 65536, .inl (f))), (mk, .inl (cB, 65536, .inl (kf))), (mf, .inl (cI, 1025, .inl (fun k => iI (fa k)))), (ml, .inl (cI, 1025, .inl (fun k => iI (la k))))] sz) := by
  refine Met.ofW (cc := cX3_cutLine) (maxL := 5) (ret := (some .boolean)) (by decide) rfl ?_
  intro p e s m args below meth c s₁ B hml hv
  obtain ⟨rfl, hsz, hP, hK, hD0⟩ := hv
  have hx := B.exec
  have hb := B.bytes
  have hr := B.returns
  have hts := atoms_spec (ws := wX3_cutLine) B.pre
  have hown : s.vm.findClass "RequestCutterModel" = some m.cls := findClass_of_methodNamed B.named
  have hlocks := B.notSynchronized
  subst hsz
  have hD := hD0.self (sz := s.heap.size)
  generalize hAe : va_A [(m0, .inr (3, [.ref mt, .ref mi, .ref mk, .ref mf, .ref ml, .int (iI ((tc : Int))), .int (iI ((n : Int))), .int (iI (((0 : Nat) : Int))), .int (iI (((0 : Nat) : Int))), .int (iI (0)), .int (iI (0))])), (mi, .inl (cB, 65536, .inl (f))), (mk, .inl (cB, 65536, .inl (kf))), (mf, .inl (cI, 1025, .inl (fun k => iI (fa k)))), (ml, .inl (cI, 1025, .inl (fun k => iI (la k))))] s.heap.size = A at hD ⊢
  have hA : ∀ q : Nat, s.heap.size ≤ q → A q := fun q h => by rw [← hAe]; exact Or.inr h
  have hS : va_S A s.heap s.heap [] := va_S.rf
  have hP : va_P (dC, dI) vwCl [(m0, .inr (3, [.ref mt, .ref mi, .ref mk, .ref mf, .ref ml, .int (iI ((tc : Int))), .int (iI ((n : Int))), .int (iI (((0 : Nat) : Int))), .int (iI (((0 : Nat) : Int))), .int (iI (0)), .int (iI (0))])), (mi, .inl (cB, 65536, .inl (f))), (mk, .inl (cB, 65536, .inl (kf))), (mf, .inl (cI, 1025, .inl (fun k => iI (fa k)))), (ml, .inl (cI, 1025, .inl (fun k => iI (la k))))] s.heap := hP
  have hl := lv_entry ([.ref m0]) (n := 5) (Nat.le_of_ble_eq_true rfl)
  rw [lg_entry_eq]
  generalize (lg_sl ([.ref m0]) ++ List.replicate (5 - (lg_sl ([.ref m0])).length) Slot.unset).toArray = ls at hl ⊢
  have hl : lv_has ls 5 [(0, .ref m0)] := hl
  refine lv_iconst (v := iI (0)) hx hb dX3_cutLine_0 rfl ?_
  refine lv_istore_n (lv' := [(1, .int (iI (0))), (0, .ref m0)]) hx hb dX3_cutLine_1 rfl hl (by decide) rfl (fun ls hl => ?_)
  refine (?_ : ∀ (k : Nat) (i : Int) (ls : Array Slot), i + k = ((min n 2048 : Nat) : Int) → 0 ≤ i → zLF (bA f n) k i = zLF (bA f n) (min n 2048) 0 → lv_has ls 5 [(1, .int (iI (i))), (0, .ref m0)] → W p l e _ s m _ below meth c _ _ _ _ _ (F0 m 2 ls [])) (min n 2048) (0) ls (by omega) (by omega) (rfl) (lv_sub hl [0, 1] rfl)
  intro k
  induction k with
  | zero =>
    intro i ls hk hi0 hz hl
    refine lv_iload_n hx hb dX3_cutLine_2 rfl (lv_at hl 0 rfl) ?_
    refine lv_aload_n hx hb dX3_cutLine_3 rfl (lv_at hl 1 rfl) ?_
    refine va_get (D := (dC, dI)) (ci := 3) (v := .int (iI ((n : Int)))) (C := "RequestCutterModel") (T := TX3) (N := 11) hx hb hts (fun w h => List.mem_cons_of_mem _ (inX3 w h)) hown hK hP 0 rfl rfl 6 (by decide) (hts _ (List.mem_cons_of_mem _ tw_272)) (fun _ h9 => h9) rfl dX3_cutLine_4 ?_
    refine lx_icmp_ge (a := i) (b := (n : Int)) (tgt := 34) hx hb dX3_cutLine_7 (by decide) (by omega) (by omega) (fun cq1 => ?_) (fun cq1 => ?_)
    · have hF : zLF (bA f n) (min n 2048) 0 = -1 := by rw [← hz]; rfl
      refine lv_aload_n hx hb dX3_cutLine_34 rfl (lv_at hl 1 rfl) ?_
      refine lv_iload_n hx hb dX3_cutLine_35 rfl (lv_at hl 0 rfl) ?_
      refine lv_sipush (v := iI (2048)) hx hb dX3_cutLine_36 (by decide) ?_
      refine lx_icmp_ne (a := i) (b := 2048) (tgt := 46) hx hb dX3_cutLine_39 (by decide) (by omega) (by omega) (fun cq2 => ?_) (fun cq2 => ?_)
      · refine lv_iconst (v := iI (0)) hx hb dX3_cutLine_46 rfl ?_
        refine va_put (D := (dC, dI)) (ci := 3) (v := .int (iI (0))) (ty := .int) (C := "RequestCutterModel") (T := TX3) (N := 11) hx hb hts (fun w h => List.mem_cons_of_mem _ (inX3 w h)) tyX3 tyX3_ok nmX3 hown hK hP hD hS 0 rfl rfl 9 (by decide) (hts _ (List.mem_cons_of_mem _ tw_275)) (fun _ h9 => h9) rfl (by decide +kernel) rfl rfl (Nat.le_of_ble_eq_true rfl) dX3_cutLine_47 (fun H locs hP hD hS => ?_)
        have hP : va_P (dC, dI) vwCl [(m0, .inr (3, [.ref mt, .ref mi, .ref mk, .ref mf, .ref ml, .int (iI ((tc : Int))), .int (iI ((n : Int))), .int (iI (((0 : Nat) : Int))), .int (iI (((0 : Nat) : Int))), .int (iI (0)), .int (iI (0))])), (mi, .inl (cB, 65536, .inl (f))), (mk, .inl (cB, 65536, .inl (kf))), (mf, .inl (cI, 1025, .inl (fun k => iI (fa k)))), (ml, .inl (cI, 1025, .inl (fun k => iI (la k))))] H := hP
        have hD : va_D A [(m0, .inr (3, [.ref mt, .ref mi, .ref mk, .ref mf, .ref ml, .int (iI ((tc : Int))), .int (iI ((n : Int))), .int (iI (((0 : Nat) : Int))), .int (iI (((0 : Nat) : Int))), .int (iI (0)), .int (iI (0))])), (mi, .inl (cB, 65536, .inl (f))), (mk, .inl (cB, 65536, .inl (kf))), (mf, .inl (cI, 1025, .inl (fun k => iI (fa k)))), (ml, .inl (cI, 1025, .inl (fun k => iI (la k))))] := hD
        refine lv_iload_n hx hb dX3_cutLine_50 rfl (lv_at hl 0 rfl) ?_
        refine lv_sipush (v := iI (2048)) hx hb dX3_cutLine_51 (by decide) ?_
        refine lx_icmp_eq (a := i) (b := 2048) (tgt := 65) hx hb dX3_cutLine_54 (by decide) (by omega) (by omega) (fun cq3 => ?_) (fun cq3 => ?_)
        · exact absurd cq3 (by omega)
        · refine lv_iload_n hx hb dX3_cutLine_57 rfl (lv_at hl 0 rfl) ?_
          refine lv_aload_n hx hb dX3_cutLine_58 rfl (lv_at hl 1 rfl) ?_
          refine va_get (D := (dC, dI)) (ci := 3) (v := .int (iI ((n : Int)))) (C := "RequestCutterModel") (T := TX3) (N := 11) hx hb hts (fun w h => List.mem_cons_of_mem _ (inX3 w h)) hown hK hP 0 rfl rfl 6 (by decide) (hts _ (List.mem_cons_of_mem _ tw_272)) (fun _ h9 => h9) rfl dX3_cutLine_59 ?_
          refine lx_icmp_ne (a := i) (b := (n : Int)) (tgt := 67) hx hb dX3_cutLine_62 (by decide) (by omega) (by omega) (fun cq4 => ?_) (fun cq4 => ?_)
          · exact absurd cq4 (by omega)
          · refine lv_iconst (v := iI (0)) hx hb dX3_cutLine_65 rfl ?_
            have hZ : (zPlain (bA f n) n) = (-1, 0, []) := by unfold zPlain; rw [hF, if_pos rfl, if_neg (by omega)]
            exact W.zret (v := iI (0)) hx hb hr (by rfl) (fun t ht hW => ⟨⟨iI (0), (0, 0, 0, 0, kf, fa, la), rfl, ⟨by rw [hZ]; rfl, by rw [hZ]; rfl, hkf, fun q => by rw [hZ] at q; exact absurd q (by decide)⟩, by rw [ht]; exact hP, va_K.moved hW.alike hK, hD⟩, hS.F ht⟩) hS.2.2 dX3_cutLine_66
      · refine lv_iconst (v := iI (5)) hx hb dX3_cutLine_42 rfl ?_
        refine lv_goto (tgt := 47) hx hb dX3_cutLine_43 (by decide) ?_
        refine va_put (D := (dC, dI)) (ci := 3) (v := .int (iI (5))) (ty := .int) (C := "RequestCutterModel") (T := TX3) (N := 11) hx hb hts (fun w h => List.mem_cons_of_mem _ (inX3 w h)) tyX3 tyX3_ok nmX3 hown hK hP hD hS 0 rfl rfl 9 (by decide) (hts _ (List.mem_cons_of_mem _ tw_275)) (fun _ h9 => h9) rfl (by decide +kernel) rfl rfl (Nat.le_of_ble_eq_true rfl) dX3_cutLine_47 (fun H locs hP hD hS => ?_)
        have hP : va_P (dC, dI) vwCl [(m0, .inr (3, [.ref mt, .ref mi, .ref mk, .ref mf, .ref ml, .int (iI ((tc : Int))), .int (iI ((n : Int))), .int (iI (((0 : Nat) : Int))), .int (iI (((0 : Nat) : Int))), .int (iI (5)), .int (iI (0))])), (mi, .inl (cB, 65536, .inl (f))), (mk, .inl (cB, 65536, .inl (kf))), (mf, .inl (cI, 1025, .inl (fun k => iI (fa k)))), (ml, .inl (cI, 1025, .inl (fun k => iI (la k))))] H := hP
        have hD : va_D A [(m0, .inr (3, [.ref mt, .ref mi, .ref mk, .ref mf, .ref ml, .int (iI ((tc : Int))), .int (iI ((n : Int))), .int (iI (((0 : Nat) : Int))), .int (iI (((0 : Nat) : Int))), .int (iI (5)), .int (iI (0))])), (mi, .inl (cB, 65536, .inl (f))), (mk, .inl (cB, 65536, .inl (kf))), (mf, .inl (cI, 1025, .inl (fun k => iI (fa k)))), (ml, .inl (cI, 1025, .inl (fun k => iI (la k))))] := hD
        refine lv_iload_n hx hb dX3_cutLine_50 rfl (lv_at hl 0 rfl) ?_
        refine lv_sipush (v := iI (2048)) hx hb dX3_cutLine_51 (by decide) ?_
        refine lx_icmp_eq (a := i) (b := 2048) (tgt := 65) hx hb dX3_cutLine_54 (by decide) (by omega) (by omega) (fun cq5 => ?_) (fun cq5 => ?_)
        · refine lv_iconst (v := iI (0)) hx hb dX3_cutLine_65 rfl ?_
          have hZ : (zPlain (bA f n) n) = (-2, 5, []) := by unfold zPlain; rw [hF, if_pos rfl, if_pos (by omega)]
          exact W.zret (v := iI (0)) hx hb hr (by rfl) (fun t ht hW => ⟨⟨iI (0), (5, 0, 0, 0, kf, fa, la), rfl, ⟨by rw [hZ]; rfl, by rw [hZ]; rfl, hkf, fun q => by rw [hZ] at q; exact absurd q (by decide)⟩, by rw [ht]; exact hP, va_K.moved hW.alike hK, hD⟩, hS.F ht⟩) hS.2.2 dX3_cutLine_66
        · exact absurd cq5 (by omega)
    · refine lv_iload_n hx hb dX3_cutLine_10 rfl (lv_at hl 0 rfl) ?_
      refine lv_sipush (v := iI (2048)) hx hb dX3_cutLine_11 (by decide) ?_
      refine lx_icmp_ge (a := i) (b := 2048) (tgt := 34) hx hb dX3_cutLine_14 (by decide) (by omega) (by omega) (fun cq6 => ?_) (fun cq6 => ?_)
      · have hF : zLF (bA f n) (min n 2048) 0 = -1 := by rw [← hz]; rfl
        refine lv_aload_n hx hb dX3_cutLine_34 rfl (lv_at hl 1 rfl) ?_
        refine lv_iload_n hx hb dX3_cutLine_35 rfl (lv_at hl 0 rfl) ?_
        refine lv_sipush (v := iI (2048)) hx hb dX3_cutLine_36 (by decide) ?_
        refine lx_icmp_ne (a := i) (b := 2048) (tgt := 46) hx hb dX3_cutLine_39 (by decide) (by omega) (by omega) (fun cq7 => ?_) (fun cq7 => ?_)
        · exact absurd cq7 (by omega)
        · refine lv_iconst (v := iI (5)) hx hb dX3_cutLine_42 rfl ?_
          refine lv_goto (tgt := 47) hx hb dX3_cutLine_43 (by decide) ?_
          refine va_put (D := (dC, dI)) (ci := 3) (v := .int (iI (5))) (ty := .int) (C := "RequestCutterModel") (T := TX3) (N := 11) hx hb hts (fun w h => List.mem_cons_of_mem _ (inX3 w h)) tyX3 tyX3_ok nmX3 hown hK hP hD hS 0 rfl rfl 9 (by decide) (hts _ (List.mem_cons_of_mem _ tw_275)) (fun _ h9 => h9) rfl (by decide +kernel) rfl rfl (Nat.le_of_ble_eq_true rfl) dX3_cutLine_47 (fun H locs hP hD hS => ?_)
          have hP : va_P (dC, dI) vwCl [(m0, .inr (3, [.ref mt, .ref mi, .ref mk, .ref mf, .ref ml, .int (iI ((tc : Int))), .int (iI ((n : Int))), .int (iI (((0 : Nat) : Int))), .int (iI (((0 : Nat) : Int))), .int (iI (5)), .int (iI (0))])), (mi, .inl (cB, 65536, .inl (f))), (mk, .inl (cB, 65536, .inl (kf))), (mf, .inl (cI, 1025, .inl (fun k => iI (fa k)))), (ml, .inl (cI, 1025, .inl (fun k => iI (la k))))] H := hP
          have hD : va_D A [(m0, .inr (3, [.ref mt, .ref mi, .ref mk, .ref mf, .ref ml, .int (iI ((tc : Int))), .int (iI ((n : Int))), .int (iI (((0 : Nat) : Int))), .int (iI (((0 : Nat) : Int))), .int (iI (5)), .int (iI (0))])), (mi, .inl (cB, 65536, .inl (f))), (mk, .inl (cB, 65536, .inl (kf))), (mf, .inl (cI, 1025, .inl (fun k => iI (fa k)))), (ml, .inl (cI, 1025, .inl (fun k => iI (la k))))] := hD
          refine lv_iload_n hx hb dX3_cutLine_50 rfl (lv_at hl 0 rfl) ?_
          refine lv_sipush (v := iI (2048)) hx hb dX3_cutLine_51 (by decide) ?_
          refine lx_icmp_eq (a := i) (b := 2048) (tgt := 65) hx hb dX3_cutLine_54 (by decide) (by omega) (by omega) (fun cq8 => ?_) (fun cq8 => ?_)
          · refine lv_iconst (v := iI (0)) hx hb dX3_cutLine_65 rfl ?_
            have hZ : (zPlain (bA f n) n) = (-2, 5, []) := by unfold zPlain; rw [hF, if_pos rfl, if_pos (by omega)]
            exact W.zret (v := iI (0)) hx hb hr (by rfl) (fun t ht hW => ⟨⟨iI (0), (5, 0, 0, 0, kf, fa, la), rfl, ⟨by rw [hZ]; rfl, by rw [hZ]; rfl, hkf, fun q => by rw [hZ] at q; exact absurd q (by decide)⟩, by rw [ht]; exact hP, va_K.moved hW.alike hK, hD⟩, hS.F ht⟩) hS.2.2 dX3_cutLine_66
          · exact absurd cq8 (by omega)
      · exact absurd cq6 (by omega)
  | succ k ih =>
    intro i ls hk hi0 hz hl
    refine lv_iload_n hx hb dX3_cutLine_2 rfl (lv_at hl 0 rfl) ?_
    refine lv_aload_n hx hb dX3_cutLine_3 rfl (lv_at hl 1 rfl) ?_
    refine va_get (D := (dC, dI)) (ci := 3) (v := .int (iI ((n : Int)))) (C := "RequestCutterModel") (T := TX3) (N := 11) hx hb hts (fun w h => List.mem_cons_of_mem _ (inX3 w h)) hown hK hP 0 rfl rfl 6 (by decide) (hts _ (List.mem_cons_of_mem _ tw_272)) (fun _ h9 => h9) rfl dX3_cutLine_4 ?_
    refine lx_icmp_ge (a := i) (b := (n : Int)) (tgt := 34) hx hb dX3_cutLine_7 (by decide) (by omega) (by omega) (fun cq9 => ?_) (fun cq9 => ?_)
    · exact absurd cq9 (by omega)
    · refine lv_iload_n hx hb dX3_cutLine_10 rfl (lv_at hl 0 rfl) ?_
      refine lv_sipush (v := iI (2048)) hx hb dX3_cutLine_11 (by decide) ?_
      refine lx_icmp_ge (a := i) (b := 2048) (tgt := 34) hx hb dX3_cutLine_14 (by decide) (by omega) (by omega) (fun cq10 => ?_) (fun cq10 => ?_)
      · exact absurd cq10 (by omega)
      · refine lv_aload_n hx hb dX3_cutLine_17 rfl (lv_at hl 1 rfl) ?_
        refine va_get (D := (dC, dI)) (ci := 3) (v := .ref mi) (C := "RequestCutterModel") (T := TX3) (N := 11) hx hb hts (fun w h => List.mem_cons_of_mem _ (inX3 w h)) hown hK hP 0 rfl rfl 1 (by decide) (hts _ (List.mem_cons_of_mem _ tw_267)) (fun _ h9 => h9) rfl dX3_cutLine_18 ?_
        refine lv_iload_n hx hb dX3_cutLine_21 rfl (lv_at hl 0 rfl) ?_
        refine va_bald hx hb hK hP 1 0 rfl rfl (iI_in (by omega)) dX3_cutLine_22 ?_
        refine lx_top (x2 := (f) ((i).toNat)) (congrArg (f) (iI_cl (a := i) (by omega))) ?_
        refine lx_top (x2 := iI (((f) ((i).toNat)).toInt)) (Int32.ofInt_toInt _).symm ?_
        have g_m := mA hfit n (i) (by omega)
        refine lv_bipush (v := iI (10)) hx hb dX3_cutLine_23 (by decide) ?_
        refine lx_icmp_eq (a := ((f) ((i).toNat)).toInt) (b := 10) (tgt := 34) hx hb dX3_cutLine_25 (by decide) (by omega) (by omega) (fun cq11 => ?_) (fun cq11 => ?_)
        · have hF : zLF (bA f n) (min n 2048) 0 = i := by rw [← hz]; exact if_pos (by omega)
          refine lv_aload_n hx hb dX3_cutLine_34 rfl (lv_at hl 1 rfl) ?_
          refine lv_iload_n hx hb dX3_cutLine_35 rfl (lv_at hl 0 rfl) ?_
          refine lv_sipush (v := iI (2048)) hx hb dX3_cutLine_36 (by decide) ?_
          refine lx_icmp_ne (a := i) (b := 2048) (tgt := 46) hx hb dX3_cutLine_39 (by decide) (by omega) (by omega) (fun cq12 => ?_) (fun cq12 => ?_)
          · refine lv_iconst (v := iI (0)) hx hb dX3_cutLine_46 rfl ?_
            refine va_put (D := (dC, dI)) (ci := 3) (v := .int (iI (0))) (ty := .int) (C := "RequestCutterModel") (T := TX3) (N := 11) hx hb hts (fun w h => List.mem_cons_of_mem _ (inX3 w h)) tyX3 tyX3_ok nmX3 hown hK hP hD hS 0 rfl rfl 9 (by decide) (hts _ (List.mem_cons_of_mem _ tw_275)) (fun _ h9 => h9) rfl (by decide +kernel) rfl rfl (Nat.le_of_ble_eq_true rfl) dX3_cutLine_47 (fun H locs hP hD hS => ?_)
            have hP : va_P (dC, dI) vwCl [(m0, .inr (3, [.ref mt, .ref mi, .ref mk, .ref mf, .ref ml, .int (iI ((tc : Int))), .int (iI ((n : Int))), .int (iI (((0 : Nat) : Int))), .int (iI (((0 : Nat) : Int))), .int (iI (0)), .int (iI (0))])), (mi, .inl (cB, 65536, .inl (f))), (mk, .inl (cB, 65536, .inl (kf))), (mf, .inl (cI, 1025, .inl (fun k => iI (fa k)))), (ml, .inl (cI, 1025, .inl (fun k => iI (la k))))] H := hP
            have hD : va_D A [(m0, .inr (3, [.ref mt, .ref mi, .ref mk, .ref mf, .ref ml, .int (iI ((tc : Int))), .int (iI ((n : Int))), .int (iI (((0 : Nat) : Int))), .int (iI (((0 : Nat) : Int))), .int (iI (0)), .int (iI (0))])), (mi, .inl (cB, 65536, .inl (f))), (mk, .inl (cB, 65536, .inl (kf))), (mf, .inl (cI, 1025, .inl (fun k => iI (fa k)))), (ml, .inl (cI, 1025, .inl (fun k => iI (la k))))] := hD
            refine lv_iload_n hx hb dX3_cutLine_50 rfl (lv_at hl 0 rfl) ?_
            refine lv_sipush (v := iI (2048)) hx hb dX3_cutLine_51 (by decide) ?_
            refine lx_icmp_eq (a := i) (b := 2048) (tgt := 65) hx hb dX3_cutLine_54 (by decide) (by omega) (by omega) (fun cq13 => ?_) (fun cq13 => ?_)
            · exact absurd cq13 (by omega)
            · refine lv_iload_n hx hb dX3_cutLine_57 rfl (lv_at hl 0 rfl) ?_
              refine lv_aload_n hx hb dX3_cutLine_58 rfl (lv_at hl 1 rfl) ?_
              refine va_get (D := (dC, dI)) (ci := 3) (v := .int (iI ((n : Int)))) (C := "RequestCutterModel") (T := TX3) (N := 11) hx hb hts (fun w h => List.mem_cons_of_mem _ (inX3 w h)) hown hK hP 0 rfl rfl 6 (by decide) (hts _ (List.mem_cons_of_mem _ tw_272)) (fun _ h9 => h9) rfl dX3_cutLine_59 ?_
              refine lx_icmp_ne (a := i) (b := (n : Int)) (tgt := 67) hx hb dX3_cutLine_62 (by decide) (by omega) (by omega) (fun cq14 => ?_) (fun cq14 => ?_)
              · refine lv_aload_n hx hb dX3_cutLine_67 rfl (lv_at hl 1 rfl) ?_
                refine lv_iload_n hx hb dX3_cutLine_68 rfl (lv_at hl 0 rfl) ?_
                refine lv_iconst (v := iI (1)) hx hb dX3_cutLine_69 rfl ?_
                refine lx_iadd (a := i) (b := 1) hx hb dX3_cutLine_70 ?_
                refine va_put (D := (dC, dI)) (ci := 3) (v := .int (iI (i + 1))) (ty := .int) (C := "RequestCutterModel") (T := TX3) (N := 11) hx hb hts (fun w h => List.mem_cons_of_mem _ (inX3 w h)) tyX3 tyX3_ok nmX3 hown hK hP hD hS 0 rfl rfl 10 (by decide) (hts _ (List.mem_cons_of_mem _ tw_276)) (fun _ h9 => h9) rfl (by decide +kernel) rfl rfl (Nat.le_of_ble_eq_true rfl) dX3_cutLine_71 (fun H locs hP hD hS => ?_)
                have hP : va_P (dC, dI) vwCl [(m0, .inr (3, [.ref mt, .ref mi, .ref mk, .ref mf, .ref ml, .int (iI ((tc : Int))), .int (iI ((n : Int))), .int (iI (((0 : Nat) : Int))), .int (iI (((0 : Nat) : Int))), .int (iI (0)), .int (iI (i + 1))])), (mi, .inl (cB, 65536, .inl (f))), (mk, .inl (cB, 65536, .inl (kf))), (mf, .inl (cI, 1025, .inl (fun k => iI (fa k)))), (ml, .inl (cI, 1025, .inl (fun k => iI (la k))))] H := hP
                have hD : va_D A [(m0, .inr (3, [.ref mt, .ref mi, .ref mk, .ref mf, .ref ml, .int (iI ((tc : Int))), .int (iI ((n : Int))), .int (iI (((0 : Nat) : Int))), .int (iI (((0 : Nat) : Int))), .int (iI (0)), .int (iI (i + 1))])), (mi, .inl (cB, 65536, .inl (f))), (mk, .inl (cB, 65536, .inl (kf))), (mf, .inl (cI, 1025, .inl (fun k => iI (fa k)))), (ml, .inl (cI, 1025, .inl (fun k => iI (la k))))] := hD
                refine lv_iload_n hx hb dX3_cutLine_74 rfl (lv_at hl 0 rfl) ?_
                refine lx_if_le (a := i) (tgt := 97) hx hb dX3_cutLine_75 (by decide) (by omega) (fun cq15 => ?_) (fun cq15 => ?_)
                · have g_l : bA f n (i - 1) = -1 := bA_out (by omega)
                  refine lv_iload_n hx hb dX3_cutLine_97 rfl (lv_at hl 0 rfl) ?_
                  refine lv_istore_n (lv' := [(2, .int (iI (i))), (1, .int (iI (i))), (0, .ref m0)]) hx hb dX3_cutLine_98 rfl hl (by decide) rfl (fun ls hl => ?_)
                  refine lv_iconst (v := iI (0)) hx hb dX3_cutLine_99 rfl ?_
                  refine lv_istore_n (lv' := [(3, .int (iI (0))), (2, .int (iI (i))), (1, .int (iI (i))), (0, .ref m0)]) hx hb dX3_cutLine_100 rfl hl (by decide) rfl (fun ls hl => ?_)
                  obtain ⟨T, hT2⟩ : ∃ T : Int, T = i := ⟨_, rfl⟩
                  have hT : zLast (bA f n) i = T := by rw [hT2]; exact if_neg (by omega)
                  obtain ⟨ZS, hZS⟩ : ∃ ZS, ZS = zSplit (bA f n) T (T + 1).toNat 0 0 [] := ⟨_, rfl⟩
                  have hZ : (zPlain (bA f n) n) = (i + 1, 0, ZS) := by unfold zPlain; rw [hF, if_neg (by omega), hT, hZS]
                  have hT3 : 0 ≤ T ∧ T ≤ i := by omega
                  have hi3 : i ≤ 2047 ∧ i < n := by omega
                  have hz9 : zSplit (bA f n) T (T + 1 - 0).toNat 0 0 [] = ZS := by rw [hZS, Int.sub_zero]
                  have hl : lv_has ls 5 [(3, .int (iI (0))), (2, .int (iI (T))), (1, .int (iI (i))), (0, .ref m0)] := by rw [hT2]; exact hl
                  refine (?_ : ∀ (k2 : Nat) (d1 : Int) (w : Nat) (ks : Nat) (kf : Nat → Int32) (fa : Nat → Int) (la : Nat → Int) (ws : List (Int × Int)) (H : Heap) (locs : List Loc) (ls : Array Slot), (T + 1 - d1 ≤ k2 ∧ 0 ≤ d1 ∧ d1 ≤ T + 1) → zSplit (bA f n) T (T + 1 - d1).toNat d1 d1 ws = ZS → mR f kf ws w ks fa la → (2 * (w : Int) ≤ d1 ∧ (ks : Int) ≤ d1) → sb_Fit kf → va_P (dC, dI) vwCl [(m0, .inr (3, [.ref mt, .ref mi, .ref mk, .ref mf, .ref ml, .int (iI ((tc : Int))), .int (iI ((n : Int))), .int (iI ((w : Int))), .int (iI ((ks : Int))), .int (iI (0)), .int (iI (i + 1))])), (mi, .inl (cB, 65536, .inl (f))), (mk, .inl (cB, 65536, .inl (kf))), (mf, .inl (cI, 1025, .inl (fun k => iI (fa k)))), (ml, .inl (cI, 1025, .inl (fun k => iI (la k))))] H → va_D A [(m0, .inr (3, [.ref mt, .ref mi, .ref mk, .ref mf, .ref ml, .int (iI ((tc : Int))), .int (iI ((n : Int))), .int (iI ((w : Int))), .int (iI ((ks : Int))), .int (iI (0)), .int (iI (i + 1))])), (mi, .inl (cB, 65536, .inl (f))), (mk, .inl (cB, 65536, .inl (kf))), (mf, .inl (cI, 1025, .inl (fun k => iI (fa k)))), (ml, .inl (cI, 1025, .inl (fun k => iI (la k))))] → va_S A s.heap H locs → lv_has ls 5 [(3, .int (iI (d1))), (2, .int (iI (T))), (0, .ref m0), (1, .int (iI (i)))] → W p l e _ s m _ below meth c H locs _ _ _ (F0 m 101 ls [])) ((T + 1).toNat) (0) (0) (0) (kf) (fa) (la) ([]) _ _ ls (by omega) (hz9) (mR_0) (by omega) (hkf) (hP.sub [0, 1, 2, 3, 4] rfl) (hD.sub [0, 1, 2, 3, 4] (by decide) rfl) hS (lv_sub hl [0, 1, 3, 2] rfl)
                  intro k2
                  induction k2 with
                  | zero =>
                    intro d1 w ks kf fa la ws H locs ls hd1 hz2 hmr hwk hkf hP hD hS hl
                    refine lv_iload_n hx hb dX3_cutLine_101 rfl (lv_at hl 0 rfl) ?_
                    refine lv_iload_n hx hb dX3_cutLine_102 rfl (lv_at hl 1 rfl) ?_
                    refine lx_icmp_ge (a := d1) (b := T) (tgt := 156) hx hb dX3_cutLine_103 (by decide) (by omega) (by omega) (fun cq16 => ?_) (fun cq16 => ?_)
                    · refine lv_iconst (v := iI (1)) hx hb dX3_cutLine_156 rfl ?_
                      have hws : ZS = ws := by rw [← hz2]; exact zS_e (by omega)
                      exact W.zret (v := iI (1)) hx hb hr (by rfl) (fun t ht hW => ⟨⟨iI (1), (0, i + 1, w, ks, kf, fa, la), rfl, ⟨by rw [hZ]; exact congrArg iI (if_pos (by show 0 ≤ i + 1; omega)).symm, by rw [hZ]; exact (if_neg (by show ¬ i + 1 = -2; omega)).symm, hkf, fun _ => by rw [hZ, hws]; exact ⟨rfl, hmr, by show w ≤ 1024; omega, by show (ks : Int) ≤ i + 1; omega⟩⟩, by rw [ht]; exact hP, va_K.moved hW.alike hK, hD⟩, hS.F ht⟩) hS.2.2 dX3_cutLine_157
                    · exact absurd cq16 (by omega)
                  | succ k2 ih2 =>
                    intro d1 w ks kf fa la ws H locs ls hd1 hz2 hmr hwk hkf hP hD hS hl
                    refine lv_iload_n hx hb dX3_cutLine_101 rfl (lv_at hl 0 rfl) ?_
                    refine lv_iload_n hx hb dX3_cutLine_102 rfl (lv_at hl 1 rfl) ?_
                    refine lx_icmp_ge (a := d1) (b := T) (tgt := 156) hx hb dX3_cutLine_103 (by decide) (by omega) (by omega) (fun cq17 => ?_) (fun cq17 => ?_)
                    · refine lv_iconst (v := iI (1)) hx hb dX3_cutLine_156 rfl ?_
                      have hws : ZS = ws := by rw [← hz2]; exact zS_e (by omega)
                      exact W.zret (v := iI (1)) hx hb hr (by rfl) (fun t ht hW => ⟨⟨iI (1), (0, i + 1, w, ks, kf, fa, la), rfl, ⟨by rw [hZ]; exact congrArg iI (if_pos (by show 0 ≤ i + 1; omega)).symm, by rw [hZ]; exact (if_neg (by show ¬ i + 1 = -2; omega)).symm, hkf, fun _ => by rw [hZ, hws]; exact ⟨rfl, hmr, by show w ≤ 1024; omega, by show (ks : Int) ≤ i + 1; omega⟩⟩, by rw [ht]; exact hP, va_K.moved hW.alike hK, hD⟩, hS.F ht⟩) hS.2.2 dX3_cutLine_157
                    · refine lv_iload_n hx hb dX3_cutLine_106 rfl (lv_at hl 0 rfl) ?_
                      refine lv_istore (lv' := [(4, .int (iI (d1))), (3, .int (iI (d1))), (2, .int (iI (T))), (0, .ref m0), (1, .int (iI (i)))]) hx hb dX3_cutLine_107 hl (by decide) rfl (fun ls hl => ?_)
                      refine (?_ : ∀ (k3 : Nat) (e2 : Int) (ls : Array Slot), (T - e2 ≤ k3 ∧ d1 ≤ e2 ∧ e2 ≤ T) → zSplit (bA f n) T (T + 1 - e2).toNat e2 d1 ws = ZS → lv_has ls 5 [(4, .int (iI (e2))), (3, .int (iI (d1))), (2, .int (iI (T))), (0, .ref m0), (1, .int (iI (i)))] → W p l e _ s m _ below meth c _ _ _ _ _ (F0 m 109 ls [])) ((T - d1).toNat) (d1) ls (by omega) (hz2) (lv_sub hl [0, 1, 2, 3, 4] rfl)
                      intro k3
                      induction k3 with
                      | zero =>
                        intro e2 ls he2 hz3 hl
                        refine lv_iload hx hb dX3_cutLine_109 (lv_at hl 0 rfl) ?_
                        refine lv_iload_n hx hb dX3_cutLine_111 rfl (lv_at hl 2 rfl) ?_
                        refine lx_icmp_ge (a := e2) (b := T) (tgt := 133) hx hb dX3_cutLine_112 (by decide) (by omega) (by omega) (fun cq18 => ?_) (fun cq18 => ?_)
                        · refine lv_iload hx hb dX3_cutLine_133 (lv_at hl 0 rfl) ?_
                          refine lv_iload_n hx hb dX3_cutLine_135 rfl (lv_at hl 1 rfl) ?_
                          refine lx_icmp_le (a := e2) (b := d1) (tgt := 148) hx hb dX3_cutLine_136 (by decide) (by omega) (by omega) (fun cq19 => ?_) (fun cq19 => ?_)
                          · refine lv_iload hx hb dX3_cutLine_148 (lv_at hl 0 rfl) ?_
                            refine lv_iconst (v := iI (1)) hx hb dX3_cutLine_150 rfl ?_
                            refine lx_iadd (a := e2) (b := 1) hx hb dX3_cutLine_151 ?_
                            refine lv_istore_n (lv' := [(3, .int (iI (e2 + 1))), (4, .int (iI (e2))), (2, .int (iI (T))), (0, .ref m0), (1, .int (iI (i)))]) hx hb dX3_cutLine_152 rfl hl (by decide) rfl (fun ls hl => ?_)
                            refine lv_goto (tgt := 101) hx hb dX3_cutLine_153 (by decide) ?_
                            exact ih2 (e2 + 1) (w) (ks) (kf) (fa) (la) (ws) _ _ ls (by omega) (by rw [← zS_s (c := d1) (by omega) (by omega) (by omega)]; exact hz3) (hmr) (by omega) (hkf) (hP.sub [0, 1, 2, 3, 4] rfl) (hD.sub [0, 1, 2, 3, 4] (by decide) rfl) hS (lv_sub hl [0, 2, 3, 4] rfl)
                          · obtain ⟨x, hx1⟩ : ∃ x : Nat, (x : Int) = d1 := ⟨d1.toNat, by omega⟩
                            obtain ⟨z, hz1⟩ : ∃ z : Nat, (z : Int) = e2 - d1 := ⟨(e2 - d1).toNat, by omega⟩
                            refine lv_aload_n hx hb dX3_cutLine_139 rfl (lv_at hl 3 rfl) ?_
                            refine lv_iload_n hx hb dX3_cutLine_140 rfl (lv_at hl 1 rfl) ?_
                            refine lx_top (x2 := iI (x : Int)) (congrArg iI hx1.symm) ?_
                            refine lv_iload hx hb dX3_cutLine_141 (lv_at hl 0 rfl) ?_
                            refine lv_iload_n hx hb dX3_cutLine_143 rfl (lv_at hl 1 rfl) ?_
                            refine lx_isub (a := e2) (b := d1) hx hb dX3_cutLine_144 ?_
                            refine lx_top (x2 := iI (z : Int)) (congrArg iI hz1.symm) ?_
                            refine vx_Vv (As := [.int (iI ((x : Int))), .int (iI ((z : Int)))]) (rest := []) (wr := []) (ci := 3) (q0 := 0) [0, 1, 2, 3, 4] [] ⟨hx, hb, hml, hown, hts⟩ (c_X3_word l dC dI cB cI _ m0 mt mi mk mf ml tc n w ks 0 (i + 1) f kf fa la hn hfit hkf (by omega) x z (by omega) (by omega)) (cwV 2 hts (gd_V tw_346 tw_348 tw_16 tw_22 tw_349) rfl rfl rfl (by decide +kernel) ⟨Nat.le_of_ble_eq_true rfl, Nat.le_of_ble_eq_true rfl⟩) hK hP hD hS hA rfl rfl rfl rfl (by decide) rfl rfl rfl rfl hl.1 rfl (Nat.le_of_ble_eq_true rfl) dX3_cutLine_145 ⟨Nat.zero_le _, Nat.zero_le _⟩ (fun u H locs hw hP hD hS => ?_)
                            obtain ⟨k1, rfl⟩ : ∃ z, z = u := ⟨_, rfl⟩
                            try dsimp only at hw hP hD
                            obtain ⟨hk1, hk2, hk3⟩ := hw
                            have hP : va_P (dC, dI) vwCl [(m0, .inr (3, [.ref mt, .ref mi, .ref mk, .ref mf, .ref ml, .int (iI ((tc : Int))), .int (iI ((n : Int))), .int (iI (((w + 1 : Nat) : Int))), .int (iI (((ks + z : Nat) : Int))), .int (iI (0)), .int (iI (i + 1))])), (mi, .inl (cB, 65536, .inl (f))), (mk, .inl (cB, 65536, .inl (k1))), (mf, .inl (cI, 1025, .inl (fun k => iI ((updZ fa w (ks : Int)) k)))), (ml, .inl (cI, 1025, .inl (fun k => iI ((updZ la w (z : Int)) k))))] H := hP.sub [0, 1, 2, 3, 4] rfl
                            have hD : va_D A [(m0, .inr (3, [.ref mt, .ref mi, .ref mk, .ref mf, .ref ml, .int (iI ((tc : Int))), .int (iI ((n : Int))), .int (iI (((w + 1 : Nat) : Int))), .int (iI (((ks + z : Nat) : Int))), .int (iI (0)), .int (iI (i + 1))])), (mi, .inl (cB, 65536, .inl (f))), (mk, .inl (cB, 65536, .inl (k1))), (mf, .inl (cI, 1025, .inl (fun k => iI ((updZ fa w (ks : Int)) k)))), (ml, .inl (cI, 1025, .inl (fun k => iI ((updZ la w (z : Int)) k))))] := hD.sub [0, 1, 2, 3, 4] (by decide) rfl
                            refine lv_iload hx hb dX3_cutLine_148 (lv_at hl 0 rfl) ?_
                            refine lv_iconst (v := iI (1)) hx hb dX3_cutLine_150 rfl ?_
                            refine lx_iadd (a := e2) (b := 1) hx hb dX3_cutLine_151 ?_
                            refine lv_istore_n (lv' := [(3, .int (iI (e2 + 1))), (4, .int (iI (e2))), (2, .int (iI (T))), (0, .ref m0), (1, .int (iI (i)))]) hx hb dX3_cutLine_152 rfl hl (by decide) rfl (fun ls hl => ?_)
                            refine lv_goto (tgt := 101) hx hb dX3_cutLine_153 (by decide) ?_
                            exact ih2 (e2 + 1) (w + 1) (ks + z) (k1) (updZ fa w (ks : Int)) (updZ la w (z : Int)) (ws ++ [((x : Int), (z : Int))]) _ _ ls (by omega) (by rw [hx1, hz1, ← zS_w (by omega) (by omega) (by omega)]; exact hz3) (mR_add hmr hk2 hk3) (by omega) (hk1) (hP.sub [0, 1, 2, 3, 4] rfl) (hD.sub [0, 1, 2, 3, 4] (by decide) rfl) hS (lv_sub hl [0, 2, 3, 4] rfl)
                        · exact absurd cq18 (by omega)
                      | succ k3 ih3 =>
                        intro e2 ls he2 hz3 hl
                        refine lv_iload hx hb dX3_cutLine_109 (lv_at hl 0 rfl) ?_
                        refine lv_iload_n hx hb dX3_cutLine_111 rfl (lv_at hl 2 rfl) ?_
                        refine lx_icmp_ge (a := e2) (b := T) (tgt := 133) hx hb dX3_cutLine_112 (by decide) (by omega) (by omega) (fun cq20 => ?_) (fun cq20 => ?_)
                        · refine lv_iload hx hb dX3_cutLine_133 (lv_at hl 0 rfl) ?_
                          refine lv_iload_n hx hb dX3_cutLine_135 rfl (lv_at hl 1 rfl) ?_
                          refine lx_icmp_le (a := e2) (b := d1) (tgt := 148) hx hb dX3_cutLine_136 (by decide) (by omega) (by omega) (fun cq21 => ?_) (fun cq21 => ?_)
                          · refine lv_iload hx hb dX3_cutLine_148 (lv_at hl 0 rfl) ?_
                            refine lv_iconst (v := iI (1)) hx hb dX3_cutLine_150 rfl ?_
                            refine lx_iadd (a := e2) (b := 1) hx hb dX3_cutLine_151 ?_
                            refine lv_istore_n (lv' := [(3, .int (iI (e2 + 1))), (4, .int (iI (e2))), (2, .int (iI (T))), (0, .ref m0), (1, .int (iI (i)))]) hx hb dX3_cutLine_152 rfl hl (by decide) rfl (fun ls hl => ?_)
                            refine lv_goto (tgt := 101) hx hb dX3_cutLine_153 (by decide) ?_
                            exact ih2 (e2 + 1) (w) (ks) (kf) (fa) (la) (ws) _ _ ls (by omega) (by rw [← zS_s (c := d1) (by omega) (by omega) (by omega)]; exact hz3) (hmr) (by omega) (hkf) (hP.sub [0, 1, 2, 3, 4] rfl) (hD.sub [0, 1, 2, 3, 4] (by decide) rfl) hS (lv_sub hl [0, 2, 3, 4] rfl)
                          · obtain ⟨x, hx1⟩ : ∃ x : Nat, (x : Int) = d1 := ⟨d1.toNat, by omega⟩
                            obtain ⟨z, hz1⟩ : ∃ z : Nat, (z : Int) = e2 - d1 := ⟨(e2 - d1).toNat, by omega⟩
                            refine lv_aload_n hx hb dX3_cutLine_139 rfl (lv_at hl 3 rfl) ?_
                            refine lv_iload_n hx hb dX3_cutLine_140 rfl (lv_at hl 1 rfl) ?_
                            refine lx_top (x2 := iI (x : Int)) (congrArg iI hx1.symm) ?_
                            refine lv_iload hx hb dX3_cutLine_141 (lv_at hl 0 rfl) ?_
                            refine lv_iload_n hx hb dX3_cutLine_143 rfl (lv_at hl 1 rfl) ?_
                            refine lx_isub (a := e2) (b := d1) hx hb dX3_cutLine_144 ?_
                            refine lx_top (x2 := iI (z : Int)) (congrArg iI hz1.symm) ?_
                            refine vx_Vv (As := [.int (iI ((x : Int))), .int (iI ((z : Int)))]) (rest := []) (wr := []) (ci := 3) (q0 := 0) [0, 1, 2, 3, 4] [] ⟨hx, hb, hml, hown, hts⟩ (c_X3_word l dC dI cB cI _ m0 mt mi mk mf ml tc n w ks 0 (i + 1) f kf fa la hn hfit hkf (by omega) x z (by omega) (by omega)) (cwV 2 hts (gd_V tw_346 tw_348 tw_16 tw_22 tw_349) rfl rfl rfl (by decide +kernel) ⟨Nat.le_of_ble_eq_true rfl, Nat.le_of_ble_eq_true rfl⟩) hK hP hD hS hA rfl rfl rfl rfl (by decide) rfl rfl rfl rfl hl.1 rfl (Nat.le_of_ble_eq_true rfl) dX3_cutLine_145 ⟨Nat.zero_le _, Nat.zero_le _⟩ (fun u H locs hw hP hD hS => ?_)
                            obtain ⟨k1, rfl⟩ : ∃ z, z = u := ⟨_, rfl⟩
                            try dsimp only at hw hP hD
                            obtain ⟨hk1, hk2, hk3⟩ := hw
                            have hP : va_P (dC, dI) vwCl [(m0, .inr (3, [.ref mt, .ref mi, .ref mk, .ref mf, .ref ml, .int (iI ((tc : Int))), .int (iI ((n : Int))), .int (iI (((w + 1 : Nat) : Int))), .int (iI (((ks + z : Nat) : Int))), .int (iI (0)), .int (iI (i + 1))])), (mi, .inl (cB, 65536, .inl (f))), (mk, .inl (cB, 65536, .inl (k1))), (mf, .inl (cI, 1025, .inl (fun k => iI ((updZ fa w (ks : Int)) k)))), (ml, .inl (cI, 1025, .inl (fun k => iI ((updZ la w (z : Int)) k))))] H := hP.sub [0, 1, 2, 3, 4] rfl
                            have hD : va_D A [(m0, .inr (3, [.ref mt, .ref mi, .ref mk, .ref mf, .ref ml, .int (iI ((tc : Int))), .int (iI ((n : Int))), .int (iI (((w + 1 : Nat) : Int))), .int (iI (((ks + z : Nat) : Int))), .int (iI (0)), .int (iI (i + 1))])), (mi, .inl (cB, 65536, .inl (f))), (mk, .inl (cB, 65536, .inl (k1))), (mf, .inl (cI, 1025, .inl (fun k => iI ((updZ fa w (ks : Int)) k)))), (ml, .inl (cI, 1025, .inl (fun k => iI ((updZ la w (z : Int)) k))))] := hD.sub [0, 1, 2, 3, 4] (by decide) rfl
                            refine lv_iload hx hb dX3_cutLine_148 (lv_at hl 0 rfl) ?_
                            refine lv_iconst (v := iI (1)) hx hb dX3_cutLine_150 rfl ?_
                            refine lx_iadd (a := e2) (b := 1) hx hb dX3_cutLine_151 ?_
                            refine lv_istore_n (lv' := [(3, .int (iI (e2 + 1))), (4, .int (iI (e2))), (2, .int (iI (T))), (0, .ref m0), (1, .int (iI (i)))]) hx hb dX3_cutLine_152 rfl hl (by decide) rfl (fun ls hl => ?_)
                            refine lv_goto (tgt := 101) hx hb dX3_cutLine_153 (by decide) ?_
                            exact ih2 (e2 + 1) (w + 1) (ks + z) (k1) (updZ fa w (ks : Int)) (updZ la w (z : Int)) (ws ++ [((x : Int), (z : Int))]) _ _ ls (by omega) (by rw [hx1, hz1, ← zS_w (by omega) (by omega) (by omega)]; exact hz3) (mR_add hmr hk2 hk3) (by omega) (hk1) (hP.sub [0, 1, 2, 3, 4] rfl) (hD.sub [0, 1, 2, 3, 4] (by decide) rfl) hS (lv_sub hl [0, 2, 3, 4] rfl)
                        · refine lv_aload_n hx hb dX3_cutLine_115 rfl (lv_at hl 3 rfl) ?_
                          refine va_get (D := (dC, dI)) (ci := 3) (v := .ref mi) (C := "RequestCutterModel") (T := TX3) (N := 11) hx hb hts (fun w h => List.mem_cons_of_mem _ (inX3 w h)) hown hK hP 0 rfl rfl 1 (by decide) (hts _ (List.mem_cons_of_mem _ tw_267)) (fun _ h9 => h9) rfl dX3_cutLine_116 ?_
                          refine lv_iload hx hb dX3_cutLine_119 (lv_at hl 0 rfl) ?_
                          refine va_bald hx hb hK hP 1 0 rfl rfl (iI_in (by omega)) dX3_cutLine_121 ?_
                          refine lx_top (x2 := (f) ((e2).toNat)) (congrArg (f) (iI_cl (a := e2) (by omega))) ?_
                          refine lx_top (x2 := iI (((f) ((e2).toNat)).toInt)) (Int32.ofInt_toInt _).symm ?_
                          have g_m := mA hfit n (e2) (by omega)
                          refine lv_bipush (v := iI (32)) hx hb dX3_cutLine_122 (by decide) ?_
                          refine lx_icmp_eq (a := ((f) ((e2).toNat)).toInt) (b := 32) (tgt := 133) hx hb dX3_cutLine_124 (by decide) (by omega) (by omega) (fun cq22 => ?_) (fun cq22 => ?_)
                          · refine lv_iload hx hb dX3_cutLine_133 (lv_at hl 0 rfl) ?_
                            refine lv_iload_n hx hb dX3_cutLine_135 rfl (lv_at hl 1 rfl) ?_
                            refine lx_icmp_le (a := e2) (b := d1) (tgt := 148) hx hb dX3_cutLine_136 (by decide) (by omega) (by omega) (fun cq23 => ?_) (fun cq23 => ?_)
                            · refine lv_iload hx hb dX3_cutLine_148 (lv_at hl 0 rfl) ?_
                              refine lv_iconst (v := iI (1)) hx hb dX3_cutLine_150 rfl ?_
                              refine lx_iadd (a := e2) (b := 1) hx hb dX3_cutLine_151 ?_
                              refine lv_istore_n (lv' := [(3, .int (iI (e2 + 1))), (4, .int (iI (e2))), (2, .int (iI (T))), (0, .ref m0), (1, .int (iI (i)))]) hx hb dX3_cutLine_152 rfl hl (by decide) rfl (fun ls hl => ?_)
                              refine lv_goto (tgt := 101) hx hb dX3_cutLine_153 (by decide) ?_
                              exact ih2 (e2 + 1) (w) (ks) (kf) (fa) (la) (ws) _ _ ls (by omega) (by rw [← zS_s (c := d1) (by omega) (by omega) (by omega)]; exact hz3) (hmr) (by omega) (hkf) (hP.sub [0, 1, 2, 3, 4] rfl) (hD.sub [0, 1, 2, 3, 4] (by decide) rfl) hS (lv_sub hl [0, 2, 3, 4] rfl)
                            · obtain ⟨x, hx1⟩ : ∃ x : Nat, (x : Int) = d1 := ⟨d1.toNat, by omega⟩
                              obtain ⟨z, hz1⟩ : ∃ z : Nat, (z : Int) = e2 - d1 := ⟨(e2 - d1).toNat, by omega⟩
                              refine lv_aload_n hx hb dX3_cutLine_139 rfl (lv_at hl 3 rfl) ?_
                              refine lv_iload_n hx hb dX3_cutLine_140 rfl (lv_at hl 1 rfl) ?_
                              refine lx_top (x2 := iI (x : Int)) (congrArg iI hx1.symm) ?_
                              refine lv_iload hx hb dX3_cutLine_141 (lv_at hl 0 rfl) ?_
                              refine lv_iload_n hx hb dX3_cutLine_143 rfl (lv_at hl 1 rfl) ?_
                              refine lx_isub (a := e2) (b := d1) hx hb dX3_cutLine_144 ?_
                              refine lx_top (x2 := iI (z : Int)) (congrArg iI hz1.symm) ?_
                              refine vx_Vv (As := [.int (iI ((x : Int))), .int (iI ((z : Int)))]) (rest := []) (wr := []) (ci := 3) (q0 := 0) [0, 1, 2, 3, 4] [] ⟨hx, hb, hml, hown, hts⟩ (c_X3_word l dC dI cB cI _ m0 mt mi mk mf ml tc n w ks 0 (i + 1) f kf fa la hn hfit hkf (by omega) x z (by omega) (by omega)) (cwV 2 hts (gd_V tw_346 tw_348 tw_16 tw_22 tw_349) rfl rfl rfl (by decide +kernel) ⟨Nat.le_of_ble_eq_true rfl, Nat.le_of_ble_eq_true rfl⟩) hK hP hD hS hA rfl rfl rfl rfl (by decide) rfl rfl rfl rfl hl.1 rfl (Nat.le_of_ble_eq_true rfl) dX3_cutLine_145 ⟨Nat.zero_le _, Nat.zero_le _⟩ (fun u H locs hw hP hD hS => ?_)
                              obtain ⟨k1, rfl⟩ : ∃ z, z = u := ⟨_, rfl⟩
                              try dsimp only at hw hP hD
                              obtain ⟨hk1, hk2, hk3⟩ := hw
                              have hP : va_P (dC, dI) vwCl [(m0, .inr (3, [.ref mt, .ref mi, .ref mk, .ref mf, .ref ml, .int (iI ((tc : Int))), .int (iI ((n : Int))), .int (iI (((w + 1 : Nat) : Int))), .int (iI (((ks + z : Nat) : Int))), .int (iI (0)), .int (iI (i + 1))])), (mi, .inl (cB, 65536, .inl (f))), (mk, .inl (cB, 65536, .inl (k1))), (mf, .inl (cI, 1025, .inl (fun k => iI ((updZ fa w (ks : Int)) k)))), (ml, .inl (cI, 1025, .inl (fun k => iI ((updZ la w (z : Int)) k))))] H := hP.sub [0, 1, 2, 3, 4] rfl
                              have hD : va_D A [(m0, .inr (3, [.ref mt, .ref mi, .ref mk, .ref mf, .ref ml, .int (iI ((tc : Int))), .int (iI ((n : Int))), .int (iI (((w + 1 : Nat) : Int))), .int (iI (((ks + z : Nat) : Int))), .int (iI (0)), .int (iI (i + 1))])), (mi, .inl (cB, 65536, .inl (f))), (mk, .inl (cB, 65536, .inl (k1))), (mf, .inl (cI, 1025, .inl (fun k => iI ((updZ fa w (ks : Int)) k)))), (ml, .inl (cI, 1025, .inl (fun k => iI ((updZ la w (z : Int)) k))))] := hD.sub [0, 1, 2, 3, 4] (by decide) rfl
                              refine lv_iload hx hb dX3_cutLine_148 (lv_at hl 0 rfl) ?_
                              refine lv_iconst (v := iI (1)) hx hb dX3_cutLine_150 rfl ?_
                              refine lx_iadd (a := e2) (b := 1) hx hb dX3_cutLine_151 ?_
                              refine lv_istore_n (lv' := [(3, .int (iI (e2 + 1))), (4, .int (iI (e2))), (2, .int (iI (T))), (0, .ref m0), (1, .int (iI (i)))]) hx hb dX3_cutLine_152 rfl hl (by decide) rfl (fun ls hl => ?_)
                              refine lv_goto (tgt := 101) hx hb dX3_cutLine_153 (by decide) ?_
                              exact ih2 (e2 + 1) (w + 1) (ks + z) (k1) (updZ fa w (ks : Int)) (updZ la w (z : Int)) (ws ++ [((x : Int), (z : Int))]) _ _ ls (by omega) (by rw [hx1, hz1, ← zS_w (by omega) (by omega) (by omega)]; exact hz3) (mR_add hmr hk2 hk3) (by omega) (hk1) (hP.sub [0, 1, 2, 3, 4] rfl) (hD.sub [0, 1, 2, 3, 4] (by decide) rfl) hS (lv_sub hl [0, 2, 3, 4] rfl)
                          · refine lv_iinc (v := iI (e2 + 1)) (lv' := [(4, .int (iI (e2 + 1))), (3, .int (iI (d1))), (2, .int (iI (T))), (0, .ref m0), (1, .int (iI (i)))]) hx hb dX3_cutLine_127 hl (k := 0) rfl (iI_add _ _) (by decide) rfl (fun ls hl => ?_)
                            refine lv_goto (tgt := 109) hx hb dX3_cutLine_130 (by decide) ?_
                            exact ih3 (e2 + 1) ls (by omega) (by rw [← zS_n (by omega) (by omega)]; exact hz3) (lv_sub hl [0, 1, 2, 3, 4] rfl)
                · refine lv_aload_n hx hb dX3_cutLine_78 rfl (lv_at hl 1 rfl) ?_
                  refine va_get (D := (dC, dI)) (ci := 3) (v := .ref mi) (C := "RequestCutterModel") (T := TX3) (N := 11) hx hb hts (fun w h => List.mem_cons_of_mem _ (inX3 w h)) hown hK hP 0 rfl rfl 1 (by decide) (hts _ (List.mem_cons_of_mem _ tw_267)) (fun _ h9 => h9) rfl dX3_cutLine_79 ?_
                  refine lv_iload_n hx hb dX3_cutLine_82 rfl (lv_at hl 0 rfl) ?_
                  refine lv_iconst (v := iI (1)) hx hb dX3_cutLine_83 rfl ?_
                  refine lx_isub (a := i) (b := 1) hx hb dX3_cutLine_84 ?_
                  refine va_bald hx hb hK hP 1 0 rfl rfl (iI_in (by omega)) dX3_cutLine_85 ?_
                  refine lx_top (x2 := (f) ((i - 1).toNat)) (congrArg (f) (iI_cl (a := i - 1) (by omega))) ?_
                  refine lx_top (x2 := iI (((f) ((i - 1).toNat)).toInt)) (Int32.ofInt_toInt _).symm ?_
                  have g_m := mA hfit n (i - 1) (by omega)
                  refine lv_bipush (v := iI (13)) hx hb dX3_cutLine_86 (by decide) ?_
                  refine lx_icmp_ne (a := ((f) ((i - 1).toNat)).toInt) (b := 13) (tgt := 97) hx hb dX3_cutLine_88 (by decide) (by omega) (by omega) (fun cq24 => ?_) (fun cq24 => ?_)
                  · refine lv_iload_n hx hb dX3_cutLine_97 rfl (lv_at hl 0 rfl) ?_
                    refine lv_istore_n (lv' := [(2, .int (iI (i))), (1, .int (iI (i))), (0, .ref m0)]) hx hb dX3_cutLine_98 rfl hl (by decide) rfl (fun ls hl => ?_)
                    refine lv_iconst (v := iI (0)) hx hb dX3_cutLine_99 rfl ?_
                    refine lv_istore_n (lv' := [(3, .int (iI (0))), (2, .int (iI (i))), (1, .int (iI (i))), (0, .ref m0)]) hx hb dX3_cutLine_100 rfl hl (by decide) rfl (fun ls hl => ?_)
                    obtain ⟨T, hT2⟩ : ∃ T : Int, T = i := ⟨_, rfl⟩
                    have hT : zLast (bA f n) i = T := by rw [hT2]; exact if_neg (by omega)
                    obtain ⟨ZS, hZS⟩ : ∃ ZS, ZS = zSplit (bA f n) T (T + 1).toNat 0 0 [] := ⟨_, rfl⟩
                    have hZ : (zPlain (bA f n) n) = (i + 1, 0, ZS) := by unfold zPlain; rw [hF, if_neg (by omega), hT, hZS]
                    have hT3 : 0 ≤ T ∧ T ≤ i := by omega
                    have hi3 : i ≤ 2047 ∧ i < n := by omega
                    have hz9 : zSplit (bA f n) T (T + 1 - 0).toNat 0 0 [] = ZS := by rw [hZS, Int.sub_zero]
                    have hl : lv_has ls 5 [(3, .int (iI (0))), (2, .int (iI (T))), (1, .int (iI (i))), (0, .ref m0)] := by rw [hT2]; exact hl
                    refine (?_ : ∀ (k2 : Nat) (d1 : Int) (w : Nat) (ks : Nat) (kf : Nat → Int32) (fa : Nat → Int) (la : Nat → Int) (ws : List (Int × Int)) (H : Heap) (locs : List Loc) (ls : Array Slot), (T + 1 - d1 ≤ k2 ∧ 0 ≤ d1 ∧ d1 ≤ T + 1) → zSplit (bA f n) T (T + 1 - d1).toNat d1 d1 ws = ZS → mR f kf ws w ks fa la → (2 * (w : Int) ≤ d1 ∧ (ks : Int) ≤ d1) → sb_Fit kf → va_P (dC, dI) vwCl [(m0, .inr (3, [.ref mt, .ref mi, .ref mk, .ref mf, .ref ml, .int (iI ((tc : Int))), .int (iI ((n : Int))), .int (iI ((w : Int))), .int (iI ((ks : Int))), .int (iI (0)), .int (iI (i + 1))])), (mi, .inl (cB, 65536, .inl (f))), (mk, .inl (cB, 65536, .inl (kf))), (mf, .inl (cI, 1025, .inl (fun k => iI (fa k)))), (ml, .inl (cI, 1025, .inl (fun k => iI (la k))))] H → va_D A [(m0, .inr (3, [.ref mt, .ref mi, .ref mk, .ref mf, .ref ml, .int (iI ((tc : Int))), .int (iI ((n : Int))), .int (iI ((w : Int))), .int (iI ((ks : Int))), .int (iI (0)), .int (iI (i + 1))])), (mi, .inl (cB, 65536, .inl (f))), (mk, .inl (cB, 65536, .inl (kf))), (mf, .inl (cI, 1025, .inl (fun k => iI (fa k)))), (ml, .inl (cI, 1025, .inl (fun k => iI (la k))))] → va_S A s.heap H locs → lv_has ls 5 [(3, .int (iI (d1))), (2, .int (iI (T))), (0, .ref m0), (1, .int (iI (i)))] → W p l e _ s m _ below meth c H locs _ _ _ (F0 m 101 ls [])) ((T + 1).toNat) (0) (0) (0) (kf) (fa) (la) ([]) _ _ ls (by omega) (hz9) (mR_0) (by omega) (hkf) (hP.sub [0, 1, 2, 3, 4] rfl) (hD.sub [0, 1, 2, 3, 4] (by decide) rfl) hS (lv_sub hl [0, 1, 3, 2] rfl)
                    intro k2
                    induction k2 with
                    | zero =>
                      intro d1 w ks kf fa la ws H locs ls hd1 hz2 hmr hwk hkf hP hD hS hl
                      refine lv_iload_n hx hb dX3_cutLine_101 rfl (lv_at hl 0 rfl) ?_
                      refine lv_iload_n hx hb dX3_cutLine_102 rfl (lv_at hl 1 rfl) ?_
                      refine lx_icmp_ge (a := d1) (b := T) (tgt := 156) hx hb dX3_cutLine_103 (by decide) (by omega) (by omega) (fun cq25 => ?_) (fun cq25 => ?_)
                      · refine lv_iconst (v := iI (1)) hx hb dX3_cutLine_156 rfl ?_
                        have hws : ZS = ws := by rw [← hz2]; exact zS_e (by omega)
                        exact W.zret (v := iI (1)) hx hb hr (by rfl) (fun t ht hW => ⟨⟨iI (1), (0, i + 1, w, ks, kf, fa, la), rfl, ⟨by rw [hZ]; exact congrArg iI (if_pos (by show 0 ≤ i + 1; omega)).symm, by rw [hZ]; exact (if_neg (by show ¬ i + 1 = -2; omega)).symm, hkf, fun _ => by rw [hZ, hws]; exact ⟨rfl, hmr, by show w ≤ 1024; omega, by show (ks : Int) ≤ i + 1; omega⟩⟩, by rw [ht]; exact hP, va_K.moved hW.alike hK, hD⟩, hS.F ht⟩) hS.2.2 dX3_cutLine_157
                      · exact absurd cq25 (by omega)
                    | succ k2 ih2 =>
                      intro d1 w ks kf fa la ws H locs ls hd1 hz2 hmr hwk hkf hP hD hS hl
                      refine lv_iload_n hx hb dX3_cutLine_101 rfl (lv_at hl 0 rfl) ?_
                      refine lv_iload_n hx hb dX3_cutLine_102 rfl (lv_at hl 1 rfl) ?_
                      refine lx_icmp_ge (a := d1) (b := T) (tgt := 156) hx hb dX3_cutLine_103 (by decide) (by omega) (by omega) (fun cq26 => ?_) (fun cq26 => ?_)
                      · refine lv_iconst (v := iI (1)) hx hb dX3_cutLine_156 rfl ?_
                        have hws : ZS = ws := by rw [← hz2]; exact zS_e (by omega)
                        exact W.zret (v := iI (1)) hx hb hr (by rfl) (fun t ht hW => ⟨⟨iI (1), (0, i + 1, w, ks, kf, fa, la), rfl, ⟨by rw [hZ]; exact congrArg iI (if_pos (by show 0 ≤ i + 1; omega)).symm, by rw [hZ]; exact (if_neg (by show ¬ i + 1 = -2; omega)).symm, hkf, fun _ => by rw [hZ, hws]; exact ⟨rfl, hmr, by show w ≤ 1024; omega, by show (ks : Int) ≤ i + 1; omega⟩⟩, by rw [ht]; exact hP, va_K.moved hW.alike hK, hD⟩, hS.F ht⟩) hS.2.2 dX3_cutLine_157
                      · refine lv_iload_n hx hb dX3_cutLine_106 rfl (lv_at hl 0 rfl) ?_
                        refine lv_istore (lv' := [(4, .int (iI (d1))), (3, .int (iI (d1))), (2, .int (iI (T))), (0, .ref m0), (1, .int (iI (i)))]) hx hb dX3_cutLine_107 hl (by decide) rfl (fun ls hl => ?_)
                        refine (?_ : ∀ (k3 : Nat) (e2 : Int) (ls : Array Slot), (T - e2 ≤ k3 ∧ d1 ≤ e2 ∧ e2 ≤ T) → zSplit (bA f n) T (T + 1 - e2).toNat e2 d1 ws = ZS → lv_has ls 5 [(4, .int (iI (e2))), (3, .int (iI (d1))), (2, .int (iI (T))), (0, .ref m0), (1, .int (iI (i)))] → W p l e _ s m _ below meth c _ _ _ _ _ (F0 m 109 ls [])) ((T - d1).toNat) (d1) ls (by omega) (hz2) (lv_sub hl [0, 1, 2, 3, 4] rfl)
                        intro k3
                        induction k3 with
                        | zero =>
                          intro e2 ls he2 hz3 hl
                          refine lv_iload hx hb dX3_cutLine_109 (lv_at hl 0 rfl) ?_
                          refine lv_iload_n hx hb dX3_cutLine_111 rfl (lv_at hl 2 rfl) ?_
                          refine lx_icmp_ge (a := e2) (b := T) (tgt := 133) hx hb dX3_cutLine_112 (by decide) (by omega) (by omega) (fun cq27 => ?_) (fun cq27 => ?_)
                          · refine lv_iload hx hb dX3_cutLine_133 (lv_at hl 0 rfl) ?_
                            refine lv_iload_n hx hb dX3_cutLine_135 rfl (lv_at hl 1 rfl) ?_
                            refine lx_icmp_le (a := e2) (b := d1) (tgt := 148) hx hb dX3_cutLine_136 (by decide) (by omega) (by omega) (fun cq28 => ?_) (fun cq28 => ?_)
                            · refine lv_iload hx hb dX3_cutLine_148 (lv_at hl 0 rfl) ?_
                              refine lv_iconst (v := iI (1)) hx hb dX3_cutLine_150 rfl ?_
                              refine lx_iadd (a := e2) (b := 1) hx hb dX3_cutLine_151 ?_
                              refine lv_istore_n (lv' := [(3, .int (iI (e2 + 1))), (4, .int (iI (e2))), (2, .int (iI (T))), (0, .ref m0), (1, .int (iI (i)))]) hx hb dX3_cutLine_152 rfl hl (by decide) rfl (fun ls hl => ?_)
                              refine lv_goto (tgt := 101) hx hb dX3_cutLine_153 (by decide) ?_
                              exact ih2 (e2 + 1) (w) (ks) (kf) (fa) (la) (ws) _ _ ls (by omega) (by rw [← zS_s (c := d1) (by omega) (by omega) (by omega)]; exact hz3) (hmr) (by omega) (hkf) (hP.sub [0, 1, 2, 3, 4] rfl) (hD.sub [0, 1, 2, 3, 4] (by decide) rfl) hS (lv_sub hl [0, 2, 3, 4] rfl)
                            · obtain ⟨x, hx1⟩ : ∃ x : Nat, (x : Int) = d1 := ⟨d1.toNat, by omega⟩
                              obtain ⟨z, hz1⟩ : ∃ z : Nat, (z : Int) = e2 - d1 := ⟨(e2 - d1).toNat, by omega⟩
                              refine lv_aload_n hx hb dX3_cutLine_139 rfl (lv_at hl 3 rfl) ?_
                              refine lv_iload_n hx hb dX3_cutLine_140 rfl (lv_at hl 1 rfl) ?_
                              refine lx_top (x2 := iI (x : Int)) (congrArg iI hx1.symm) ?_
                              refine lv_iload hx hb dX3_cutLine_141 (lv_at hl 0 rfl) ?_
                              refine lv_iload_n hx hb dX3_cutLine_143 rfl (lv_at hl 1 rfl) ?_
                              refine lx_isub (a := e2) (b := d1) hx hb dX3_cutLine_144 ?_
                              refine lx_top (x2 := iI (z : Int)) (congrArg iI hz1.symm) ?_
                              refine vx_Vv (As := [.int (iI ((x : Int))), .int (iI ((z : Int)))]) (rest := []) (wr := []) (ci := 3) (q0 := 0) [0, 1, 2, 3, 4] [] ⟨hx, hb, hml, hown, hts⟩ (c_X3_word l dC dI cB cI _ m0 mt mi mk mf ml tc n w ks 0 (i + 1) f kf fa la hn hfit hkf (by omega) x z (by omega) (by omega)) (cwV 2 hts (gd_V tw_346 tw_348 tw_16 tw_22 tw_349) rfl rfl rfl (by decide +kernel) ⟨Nat.le_of_ble_eq_true rfl, Nat.le_of_ble_eq_true rfl⟩) hK hP hD hS hA rfl rfl rfl rfl (by decide) rfl rfl rfl rfl hl.1 rfl (Nat.le_of_ble_eq_true rfl) dX3_cutLine_145 ⟨Nat.zero_le _, Nat.zero_le _⟩ (fun u H locs hw hP hD hS => ?_)
                              obtain ⟨k1, rfl⟩ : ∃ z, z = u := ⟨_, rfl⟩
                              try dsimp only at hw hP hD
                              obtain ⟨hk1, hk2, hk3⟩ := hw
                              have hP : va_P (dC, dI) vwCl [(m0, .inr (3, [.ref mt, .ref mi, .ref mk, .ref mf, .ref ml, .int (iI ((tc : Int))), .int (iI ((n : Int))), .int (iI (((w + 1 : Nat) : Int))), .int (iI (((ks + z : Nat) : Int))), .int (iI (0)), .int (iI (i + 1))])), (mi, .inl (cB, 65536, .inl (f))), (mk, .inl (cB, 65536, .inl (k1))), (mf, .inl (cI, 1025, .inl (fun k => iI ((updZ fa w (ks : Int)) k)))), (ml, .inl (cI, 1025, .inl (fun k => iI ((updZ la w (z : Int)) k))))] H := hP.sub [0, 1, 2, 3, 4] rfl
                              have hD : va_D A [(m0, .inr (3, [.ref mt, .ref mi, .ref mk, .ref mf, .ref ml, .int (iI ((tc : Int))), .int (iI ((n : Int))), .int (iI (((w + 1 : Nat) : Int))), .int (iI (((ks + z : Nat) : Int))), .int (iI (0)), .int (iI (i + 1))])), (mi, .inl (cB, 65536, .inl (f))), (mk, .inl (cB, 65536, .inl (k1))), (mf, .inl (cI, 1025, .inl (fun k => iI ((updZ fa w (ks : Int)) k)))), (ml, .inl (cI, 1025, .inl (fun k => iI ((updZ la w (z : Int)) k))))] := hD.sub [0, 1, 2, 3, 4] (by decide) rfl
                              refine lv_iload hx hb dX3_cutLine_148 (lv_at hl 0 rfl) ?_
                              refine lv_iconst (v := iI (1)) hx hb dX3_cutLine_150 rfl ?_
                              refine lx_iadd (a := e2) (b := 1) hx hb dX3_cutLine_151 ?_
                              refine lv_istore_n (lv' := [(3, .int (iI (e2 + 1))), (4, .int (iI (e2))), (2, .int (iI (T))), (0, .ref m0), (1, .int (iI (i)))]) hx hb dX3_cutLine_152 rfl hl (by decide) rfl (fun ls hl => ?_)
                              refine lv_goto (tgt := 101) hx hb dX3_cutLine_153 (by decide) ?_
                              exact ih2 (e2 + 1) (w + 1) (ks + z) (k1) (updZ fa w (ks : Int)) (updZ la w (z : Int)) (ws ++ [((x : Int), (z : Int))]) _ _ ls (by omega) (by rw [hx1, hz1, ← zS_w (by omega) (by omega) (by omega)]; exact hz3) (mR_add hmr hk2 hk3) (by omega) (hk1) (hP.sub [0, 1, 2, 3, 4] rfl) (hD.sub [0, 1, 2, 3, 4] (by decide) rfl) hS (lv_sub hl [0, 2, 3, 4] rfl)
                          · exact absurd cq27 (by omega)
                        | succ k3 ih3 =>
                          intro e2 ls he2 hz3 hl
                          refine lv_iload hx hb dX3_cutLine_109 (lv_at hl 0 rfl) ?_
                          refine lv_iload_n hx hb dX3_cutLine_111 rfl (lv_at hl 2 rfl) ?_
                          refine lx_icmp_ge (a := e2) (b := T) (tgt := 133) hx hb dX3_cutLine_112 (by decide) (by omega) (by omega) (fun cq29 => ?_) (fun cq29 => ?_)
                          · refine lv_iload hx hb dX3_cutLine_133 (lv_at hl 0 rfl) ?_
                            refine lv_iload_n hx hb dX3_cutLine_135 rfl (lv_at hl 1 rfl) ?_
                            refine lx_icmp_le (a := e2) (b := d1) (tgt := 148) hx hb dX3_cutLine_136 (by decide) (by omega) (by omega) (fun cq30 => ?_) (fun cq30 => ?_)
                            · refine lv_iload hx hb dX3_cutLine_148 (lv_at hl 0 rfl) ?_
                              refine lv_iconst (v := iI (1)) hx hb dX3_cutLine_150 rfl ?_
                              refine lx_iadd (a := e2) (b := 1) hx hb dX3_cutLine_151 ?_
                              refine lv_istore_n (lv' := [(3, .int (iI (e2 + 1))), (4, .int (iI (e2))), (2, .int (iI (T))), (0, .ref m0), (1, .int (iI (i)))]) hx hb dX3_cutLine_152 rfl hl (by decide) rfl (fun ls hl => ?_)
                              refine lv_goto (tgt := 101) hx hb dX3_cutLine_153 (by decide) ?_
                              exact ih2 (e2 + 1) (w) (ks) (kf) (fa) (la) (ws) _ _ ls (by omega) (by rw [← zS_s (c := d1) (by omega) (by omega) (by omega)]; exact hz3) (hmr) (by omega) (hkf) (hP.sub [0, 1, 2, 3, 4] rfl) (hD.sub [0, 1, 2, 3, 4] (by decide) rfl) hS (lv_sub hl [0, 2, 3, 4] rfl)
                            · obtain ⟨x, hx1⟩ : ∃ x : Nat, (x : Int) = d1 := ⟨d1.toNat, by omega⟩
                              obtain ⟨z, hz1⟩ : ∃ z : Nat, (z : Int) = e2 - d1 := ⟨(e2 - d1).toNat, by omega⟩
                              refine lv_aload_n hx hb dX3_cutLine_139 rfl (lv_at hl 3 rfl) ?_
                              refine lv_iload_n hx hb dX3_cutLine_140 rfl (lv_at hl 1 rfl) ?_
                              refine lx_top (x2 := iI (x : Int)) (congrArg iI hx1.symm) ?_
                              refine lv_iload hx hb dX3_cutLine_141 (lv_at hl 0 rfl) ?_
                              refine lv_iload_n hx hb dX3_cutLine_143 rfl (lv_at hl 1 rfl) ?_
                              refine lx_isub (a := e2) (b := d1) hx hb dX3_cutLine_144 ?_
                              refine lx_top (x2 := iI (z : Int)) (congrArg iI hz1.symm) ?_
                              refine vx_Vv (As := [.int (iI ((x : Int))), .int (iI ((z : Int)))]) (rest := []) (wr := []) (ci := 3) (q0 := 0) [0, 1, 2, 3, 4] [] ⟨hx, hb, hml, hown, hts⟩ (c_X3_word l dC dI cB cI _ m0 mt mi mk mf ml tc n w ks 0 (i + 1) f kf fa la hn hfit hkf (by omega) x z (by omega) (by omega)) (cwV 2 hts (gd_V tw_346 tw_348 tw_16 tw_22 tw_349) rfl rfl rfl (by decide +kernel) ⟨Nat.le_of_ble_eq_true rfl, Nat.le_of_ble_eq_true rfl⟩) hK hP hD hS hA rfl rfl rfl rfl (by decide) rfl rfl rfl rfl hl.1 rfl (Nat.le_of_ble_eq_true rfl) dX3_cutLine_145 ⟨Nat.zero_le _, Nat.zero_le _⟩ (fun u H locs hw hP hD hS => ?_)
                              obtain ⟨k1, rfl⟩ : ∃ z, z = u := ⟨_, rfl⟩
                              try dsimp only at hw hP hD
                              obtain ⟨hk1, hk2, hk3⟩ := hw
                              have hP : va_P (dC, dI) vwCl [(m0, .inr (3, [.ref mt, .ref mi, .ref mk, .ref mf, .ref ml, .int (iI ((tc : Int))), .int (iI ((n : Int))), .int (iI (((w + 1 : Nat) : Int))), .int (iI (((ks + z : Nat) : Int))), .int (iI (0)), .int (iI (i + 1))])), (mi, .inl (cB, 65536, .inl (f))), (mk, .inl (cB, 65536, .inl (k1))), (mf, .inl (cI, 1025, .inl (fun k => iI ((updZ fa w (ks : Int)) k)))), (ml, .inl (cI, 1025, .inl (fun k => iI ((updZ la w (z : Int)) k))))] H := hP.sub [0, 1, 2, 3, 4] rfl
                              have hD : va_D A [(m0, .inr (3, [.ref mt, .ref mi, .ref mk, .ref mf, .ref ml, .int (iI ((tc : Int))), .int (iI ((n : Int))), .int (iI (((w + 1 : Nat) : Int))), .int (iI (((ks + z : Nat) : Int))), .int (iI (0)), .int (iI (i + 1))])), (mi, .inl (cB, 65536, .inl (f))), (mk, .inl (cB, 65536, .inl (k1))), (mf, .inl (cI, 1025, .inl (fun k => iI ((updZ fa w (ks : Int)) k)))), (ml, .inl (cI, 1025, .inl (fun k => iI ((updZ la w (z : Int)) k))))] := hD.sub [0, 1, 2, 3, 4] (by decide) rfl
                              refine lv_iload hx hb dX3_cutLine_148 (lv_at hl 0 rfl) ?_
                              refine lv_iconst (v := iI (1)) hx hb dX3_cutLine_150 rfl ?_
                              refine lx_iadd (a := e2) (b := 1) hx hb dX3_cutLine_151 ?_
                              refine lv_istore_n (lv' := [(3, .int (iI (e2 + 1))), (4, .int (iI (e2))), (2, .int (iI (T))), (0, .ref m0), (1, .int (iI (i)))]) hx hb dX3_cutLine_152 rfl hl (by decide) rfl (fun ls hl => ?_)
                              refine lv_goto (tgt := 101) hx hb dX3_cutLine_153 (by decide) ?_
                              exact ih2 (e2 + 1) (w + 1) (ks + z) (k1) (updZ fa w (ks : Int)) (updZ la w (z : Int)) (ws ++ [((x : Int), (z : Int))]) _ _ ls (by omega) (by rw [hx1, hz1, ← zS_w (by omega) (by omega) (by omega)]; exact hz3) (mR_add hmr hk2 hk3) (by omega) (hk1) (hP.sub [0, 1, 2, 3, 4] rfl) (hD.sub [0, 1, 2, 3, 4] (by decide) rfl) hS (lv_sub hl [0, 2, 3, 4] rfl)
                          · refine lv_aload_n hx hb dX3_cutLine_115 rfl (lv_at hl 3 rfl) ?_
                            refine va_get (D := (dC, dI)) (ci := 3) (v := .ref mi) (C := "RequestCutterModel") (T := TX3) (N := 11) hx hb hts (fun w h => List.mem_cons_of_mem _ (inX3 w h)) hown hK hP 0 rfl rfl 1 (by decide) (hts _ (List.mem_cons_of_mem _ tw_267)) (fun _ h9 => h9) rfl dX3_cutLine_116 ?_
                            refine lv_iload hx hb dX3_cutLine_119 (lv_at hl 0 rfl) ?_
                            refine va_bald hx hb hK hP 1 0 rfl rfl (iI_in (by omega)) dX3_cutLine_121 ?_
                            refine lx_top (x2 := (f) ((e2).toNat)) (congrArg (f) (iI_cl (a := e2) (by omega))) ?_
                            refine lx_top (x2 := iI (((f) ((e2).toNat)).toInt)) (Int32.ofInt_toInt _).symm ?_
                            have g_m := mA hfit n (e2) (by omega)
                            refine lv_bipush (v := iI (32)) hx hb dX3_cutLine_122 (by decide) ?_
                            refine lx_icmp_eq (a := ((f) ((e2).toNat)).toInt) (b := 32) (tgt := 133) hx hb dX3_cutLine_124 (by decide) (by omega) (by omega) (fun cq31 => ?_) (fun cq31 => ?_)
                            · refine lv_iload hx hb dX3_cutLine_133 (lv_at hl 0 rfl) ?_
                              refine lv_iload_n hx hb dX3_cutLine_135 rfl (lv_at hl 1 rfl) ?_
                              refine lx_icmp_le (a := e2) (b := d1) (tgt := 148) hx hb dX3_cutLine_136 (by decide) (by omega) (by omega) (fun cq32 => ?_) (fun cq32 => ?_)
                              · refine lv_iload hx hb dX3_cutLine_148 (lv_at hl 0 rfl) ?_
                                refine lv_iconst (v := iI (1)) hx hb dX3_cutLine_150 rfl ?_
                                refine lx_iadd (a := e2) (b := 1) hx hb dX3_cutLine_151 ?_
                                refine lv_istore_n (lv' := [(3, .int (iI (e2 + 1))), (4, .int (iI (e2))), (2, .int (iI (T))), (0, .ref m0), (1, .int (iI (i)))]) hx hb dX3_cutLine_152 rfl hl (by decide) rfl (fun ls hl => ?_)
                                refine lv_goto (tgt := 101) hx hb dX3_cutLine_153 (by decide) ?_
                                exact ih2 (e2 + 1) (w) (ks) (kf) (fa) (la) (ws) _ _ ls (by omega) (by rw [← zS_s (c := d1) (by omega) (by omega) (by omega)]; exact hz3) (hmr) (by omega) (hkf) (hP.sub [0, 1, 2, 3, 4] rfl) (hD.sub [0, 1, 2, 3, 4] (by decide) rfl) hS (lv_sub hl [0, 2, 3, 4] rfl)
                              · obtain ⟨x, hx1⟩ : ∃ x : Nat, (x : Int) = d1 := ⟨d1.toNat, by omega⟩
                                obtain ⟨z, hz1⟩ : ∃ z : Nat, (z : Int) = e2 - d1 := ⟨(e2 - d1).toNat, by omega⟩
                                refine lv_aload_n hx hb dX3_cutLine_139 rfl (lv_at hl 3 rfl) ?_
                                refine lv_iload_n hx hb dX3_cutLine_140 rfl (lv_at hl 1 rfl) ?_
                                refine lx_top (x2 := iI (x : Int)) (congrArg iI hx1.symm) ?_
                                refine lv_iload hx hb dX3_cutLine_141 (lv_at hl 0 rfl) ?_
                                refine lv_iload_n hx hb dX3_cutLine_143 rfl (lv_at hl 1 rfl) ?_
                                refine lx_isub (a := e2) (b := d1) hx hb dX3_cutLine_144 ?_
                                refine lx_top (x2 := iI (z : Int)) (congrArg iI hz1.symm) ?_
                                refine vx_Vv (As := [.int (iI ((x : Int))), .int (iI ((z : Int)))]) (rest := []) (wr := []) (ci := 3) (q0 := 0) [0, 1, 2, 3, 4] [] ⟨hx, hb, hml, hown, hts⟩ (c_X3_word l dC dI cB cI _ m0 mt mi mk mf ml tc n w ks 0 (i + 1) f kf fa la hn hfit hkf (by omega) x z (by omega) (by omega)) (cwV 2 hts (gd_V tw_346 tw_348 tw_16 tw_22 tw_349) rfl rfl rfl (by decide +kernel) ⟨Nat.le_of_ble_eq_true rfl, Nat.le_of_ble_eq_true rfl⟩) hK hP hD hS hA rfl rfl rfl rfl (by decide) rfl rfl rfl rfl hl.1 rfl (Nat.le_of_ble_eq_true rfl) dX3_cutLine_145 ⟨Nat.zero_le _, Nat.zero_le _⟩ (fun u H locs hw hP hD hS => ?_)
                                obtain ⟨k1, rfl⟩ : ∃ z, z = u := ⟨_, rfl⟩
                                try dsimp only at hw hP hD
                                obtain ⟨hk1, hk2, hk3⟩ := hw
                                have hP : va_P (dC, dI) vwCl [(m0, .inr (3, [.ref mt, .ref mi, .ref mk, .ref mf, .ref ml, .int (iI ((tc : Int))), .int (iI ((n : Int))), .int (iI (((w + 1 : Nat) : Int))), .int (iI (((ks + z : Nat) : Int))), .int (iI (0)), .int (iI (i + 1))])), (mi, .inl (cB, 65536, .inl (f))), (mk, .inl (cB, 65536, .inl (k1))), (mf, .inl (cI, 1025, .inl (fun k => iI ((updZ fa w (ks : Int)) k)))), (ml, .inl (cI, 1025, .inl (fun k => iI ((updZ la w (z : Int)) k))))] H := hP.sub [0, 1, 2, 3, 4] rfl
                                have hD : va_D A [(m0, .inr (3, [.ref mt, .ref mi, .ref mk, .ref mf, .ref ml, .int (iI ((tc : Int))), .int (iI ((n : Int))), .int (iI (((w + 1 : Nat) : Int))), .int (iI (((ks + z : Nat) : Int))), .int (iI (0)), .int (iI (i + 1))])), (mi, .inl (cB, 65536, .inl (f))), (mk, .inl (cB, 65536, .inl (k1))), (mf, .inl (cI, 1025, .inl (fun k => iI ((updZ fa w (ks : Int)) k)))), (ml, .inl (cI, 1025, .inl (fun k => iI ((updZ la w (z : Int)) k))))] := hD.sub [0, 1, 2, 3, 4] (by decide) rfl
                                refine lv_iload hx hb dX3_cutLine_148 (lv_at hl 0 rfl) ?_
                                refine lv_iconst (v := iI (1)) hx hb dX3_cutLine_150 rfl ?_
                                refine lx_iadd (a := e2) (b := 1) hx hb dX3_cutLine_151 ?_
                                refine lv_istore_n (lv' := [(3, .int (iI (e2 + 1))), (4, .int (iI (e2))), (2, .int (iI (T))), (0, .ref m0), (1, .int (iI (i)))]) hx hb dX3_cutLine_152 rfl hl (by decide) rfl (fun ls hl => ?_)
                                refine lv_goto (tgt := 101) hx hb dX3_cutLine_153 (by decide) ?_
                                exact ih2 (e2 + 1) (w + 1) (ks + z) (k1) (updZ fa w (ks : Int)) (updZ la w (z : Int)) (ws ++ [((x : Int), (z : Int))]) _ _ ls (by omega) (by rw [hx1, hz1, ← zS_w (by omega) (by omega) (by omega)]; exact hz3) (mR_add hmr hk2 hk3) (by omega) (hk1) (hP.sub [0, 1, 2, 3, 4] rfl) (hD.sub [0, 1, 2, 3, 4] (by decide) rfl) hS (lv_sub hl [0, 2, 3, 4] rfl)
                            · refine lv_iinc (v := iI (e2 + 1)) (lv' := [(4, .int (iI (e2 + 1))), (3, .int (iI (d1))), (2, .int (iI (T))), (0, .ref m0), (1, .int (iI (i)))]) hx hb dX3_cutLine_127 hl (k := 0) rfl (iI_add _ _) (by decide) rfl (fun ls hl => ?_)
                              refine lv_goto (tgt := 109) hx hb dX3_cutLine_130 (by decide) ?_
                              exact ih3 (e2 + 1) ls (by omega) (by rw [← zS_n (by omega) (by omega)]; exact hz3) (lv_sub hl [0, 1, 2, 3, 4] rfl)
                  · refine lv_iload_n hx hb dX3_cutLine_91 rfl (lv_at hl 0 rfl) ?_
                    refine lv_iconst (v := iI (1)) hx hb dX3_cutLine_92 rfl ?_
                    refine lx_isub (a := i) (b := 1) hx hb dX3_cutLine_93 ?_
                    refine lv_goto (tgt := 98) hx hb dX3_cutLine_94 (by decide) ?_
                    refine lv_istore_n (lv' := [(2, .int (iI (i - 1))), (1, .int (iI (i))), (0, .ref m0)]) hx hb dX3_cutLine_98 rfl hl (by decide) rfl (fun ls hl => ?_)
                    refine lv_iconst (v := iI (0)) hx hb dX3_cutLine_99 rfl ?_
                    refine lv_istore_n (lv' := [(3, .int (iI (0))), (2, .int (iI (i - 1))), (1, .int (iI (i))), (0, .ref m0)]) hx hb dX3_cutLine_100 rfl hl (by decide) rfl (fun ls hl => ?_)
                    obtain ⟨T, hT2⟩ : ∃ T : Int, T = i - 1 := ⟨_, rfl⟩
                    have hT : zLast (bA f n) i = T := by rw [hT2]; exact if_pos (by omega)
                    obtain ⟨ZS, hZS⟩ : ∃ ZS, ZS = zSplit (bA f n) T (T + 1).toNat 0 0 [] := ⟨_, rfl⟩
                    have hZ : (zPlain (bA f n) n) = (i + 1, 0, ZS) := by unfold zPlain; rw [hF, if_neg (by omega), hT, hZS]
                    have hT3 : 0 ≤ T ∧ T ≤ i := by omega
                    have hi3 : i ≤ 2047 ∧ i < n := by omega
                    have hz9 : zSplit (bA f n) T (T + 1 - 0).toNat 0 0 [] = ZS := by rw [hZS, Int.sub_zero]
                    have hl : lv_has ls 5 [(3, .int (iI (0))), (2, .int (iI (T))), (1, .int (iI (i))), (0, .ref m0)] := by rw [hT2]; exact hl
                    refine (?_ : ∀ (k2 : Nat) (d1 : Int) (w : Nat) (ks : Nat) (kf : Nat → Int32) (fa : Nat → Int) (la : Nat → Int) (ws : List (Int × Int)) (H : Heap) (locs : List Loc) (ls : Array Slot), (T + 1 - d1 ≤ k2 ∧ 0 ≤ d1 ∧ d1 ≤ T + 1) → zSplit (bA f n) T (T + 1 - d1).toNat d1 d1 ws = ZS → mR f kf ws w ks fa la → (2 * (w : Int) ≤ d1 ∧ (ks : Int) ≤ d1) → sb_Fit kf → va_P (dC, dI) vwCl [(m0, .inr (3, [.ref mt, .ref mi, .ref mk, .ref mf, .ref ml, .int (iI ((tc : Int))), .int (iI ((n : Int))), .int (iI ((w : Int))), .int (iI ((ks : Int))), .int (iI (0)), .int (iI (i + 1))])), (mi, .inl (cB, 65536, .inl (f))), (mk, .inl (cB, 65536, .inl (kf))), (mf, .inl (cI, 1025, .inl (fun k => iI (fa k)))), (ml, .inl (cI, 1025, .inl (fun k => iI (la k))))] H → va_D A [(m0, .inr (3, [.ref mt, .ref mi, .ref mk, .ref mf, .ref ml, .int (iI ((tc : Int))), .int (iI ((n : Int))), .int (iI ((w : Int))), .int (iI ((ks : Int))), .int (iI (0)), .int (iI (i + 1))])), (mi, .inl (cB, 65536, .inl (f))), (mk, .inl (cB, 65536, .inl (kf))), (mf, .inl (cI, 1025, .inl (fun k => iI (fa k)))), (ml, .inl (cI, 1025, .inl (fun k => iI (la k))))] → va_S A s.heap H locs → lv_has ls 5 [(3, .int (iI (d1))), (2, .int (iI (T))), (0, .ref m0), (1, .int (iI (i)))] → W p l e _ s m _ below meth c H locs _ _ _ (F0 m 101 ls [])) ((T + 1).toNat) (0) (0) (0) (kf) (fa) (la) ([]) _ _ ls (by omega) (hz9) (mR_0) (by omega) (hkf) (hP.sub [0, 1, 2, 3, 4] rfl) (hD.sub [0, 1, 2, 3, 4] (by decide) rfl) hS (lv_sub hl [0, 1, 3, 2] rfl)
                    intro k2
                    induction k2 with
                    | zero =>
                      intro d1 w ks kf fa la ws H locs ls hd1 hz2 hmr hwk hkf hP hD hS hl
                      refine lv_iload_n hx hb dX3_cutLine_101 rfl (lv_at hl 0 rfl) ?_
                      refine lv_iload_n hx hb dX3_cutLine_102 rfl (lv_at hl 1 rfl) ?_
                      refine lx_icmp_ge (a := d1) (b := T) (tgt := 156) hx hb dX3_cutLine_103 (by decide) (by omega) (by omega) (fun cq33 => ?_) (fun cq33 => ?_)
                      · refine lv_iconst (v := iI (1)) hx hb dX3_cutLine_156 rfl ?_
                        have hws : ZS = ws := by rw [← hz2]; exact zS_e (by omega)
                        exact W.zret (v := iI (1)) hx hb hr (by rfl) (fun t ht hW => ⟨⟨iI (1), (0, i + 1, w, ks, kf, fa, la), rfl, ⟨by rw [hZ]; exact congrArg iI (if_pos (by show 0 ≤ i + 1; omega)).symm, by rw [hZ]; exact (if_neg (by show ¬ i + 1 = -2; omega)).symm, hkf, fun _ => by rw [hZ, hws]; exact ⟨rfl, hmr, by show w ≤ 1024; omega, by show (ks : Int) ≤ i + 1; omega⟩⟩, by rw [ht]; exact hP, va_K.moved hW.alike hK, hD⟩, hS.F ht⟩) hS.2.2 dX3_cutLine_157
                      · exact absurd cq33 (by omega)
                    | succ k2 ih2 =>
                      intro d1 w ks kf fa la ws H locs ls hd1 hz2 hmr hwk hkf hP hD hS hl
                      refine lv_iload_n hx hb dX3_cutLine_101 rfl (lv_at hl 0 rfl) ?_
                      refine lv_iload_n hx hb dX3_cutLine_102 rfl (lv_at hl 1 rfl) ?_
                      refine lx_icmp_ge (a := d1) (b := T) (tgt := 156) hx hb dX3_cutLine_103 (by decide) (by omega) (by omega) (fun cq34 => ?_) (fun cq34 => ?_)
                      · refine lv_iconst (v := iI (1)) hx hb dX3_cutLine_156 rfl ?_
                        have hws : ZS = ws := by rw [← hz2]; exact zS_e (by omega)
                        exact W.zret (v := iI (1)) hx hb hr (by rfl) (fun t ht hW => ⟨⟨iI (1), (0, i + 1, w, ks, kf, fa, la), rfl, ⟨by rw [hZ]; exact congrArg iI (if_pos (by show 0 ≤ i + 1; omega)).symm, by rw [hZ]; exact (if_neg (by show ¬ i + 1 = -2; omega)).symm, hkf, fun _ => by rw [hZ, hws]; exact ⟨rfl, hmr, by show w ≤ 1024; omega, by show (ks : Int) ≤ i + 1; omega⟩⟩, by rw [ht]; exact hP, va_K.moved hW.alike hK, hD⟩, hS.F ht⟩) hS.2.2 dX3_cutLine_157
                      · refine lv_iload_n hx hb dX3_cutLine_106 rfl (lv_at hl 0 rfl) ?_
                        refine lv_istore (lv' := [(4, .int (iI (d1))), (3, .int (iI (d1))), (2, .int (iI (T))), (0, .ref m0), (1, .int (iI (i)))]) hx hb dX3_cutLine_107 hl (by decide) rfl (fun ls hl => ?_)
                        refine (?_ : ∀ (k3 : Nat) (e2 : Int) (ls : Array Slot), (T - e2 ≤ k3 ∧ d1 ≤ e2 ∧ e2 ≤ T) → zSplit (bA f n) T (T + 1 - e2).toNat e2 d1 ws = ZS → lv_has ls 5 [(4, .int (iI (e2))), (3, .int (iI (d1))), (2, .int (iI (T))), (0, .ref m0), (1, .int (iI (i)))] → W p l e _ s m _ below meth c _ _ _ _ _ (F0 m 109 ls [])) ((T - d1).toNat) (d1) ls (by omega) (hz2) (lv_sub hl [0, 1, 2, 3, 4] rfl)
                        intro k3
                        induction k3 with
                        | zero =>
                          intro e2 ls he2 hz3 hl
                          refine lv_iload hx hb dX3_cutLine_109 (lv_at hl 0 rfl) ?_
                          refine lv_iload_n hx hb dX3_cutLine_111 rfl (lv_at hl 2 rfl) ?_
                          refine lx_icmp_ge (a := e2) (b := T) (tgt := 133) hx hb dX3_cutLine_112 (by decide) (by omega) (by omega) (fun cq35 => ?_) (fun cq35 => ?_)
                          · refine lv_iload hx hb dX3_cutLine_133 (lv_at hl 0 rfl) ?_
                            refine lv_iload_n hx hb dX3_cutLine_135 rfl (lv_at hl 1 rfl) ?_
                            refine lx_icmp_le (a := e2) (b := d1) (tgt := 148) hx hb dX3_cutLine_136 (by decide) (by omega) (by omega) (fun cq36 => ?_) (fun cq36 => ?_)
                            · refine lv_iload hx hb dX3_cutLine_148 (lv_at hl 0 rfl) ?_
                              refine lv_iconst (v := iI (1)) hx hb dX3_cutLine_150 rfl ?_
                              refine lx_iadd (a := e2) (b := 1) hx hb dX3_cutLine_151 ?_
                              refine lv_istore_n (lv' := [(3, .int (iI (e2 + 1))), (4, .int (iI (e2))), (2, .int (iI (T))), (0, .ref m0), (1, .int (iI (i)))]) hx hb dX3_cutLine_152 rfl hl (by decide) rfl (fun ls hl => ?_)
                              refine lv_goto (tgt := 101) hx hb dX3_cutLine_153 (by decide) ?_
                              exact ih2 (e2 + 1) (w) (ks) (kf) (fa) (la) (ws) _ _ ls (by omega) (by rw [← zS_s (c := d1) (by omega) (by omega) (by omega)]; exact hz3) (hmr) (by omega) (hkf) (hP.sub [0, 1, 2, 3, 4] rfl) (hD.sub [0, 1, 2, 3, 4] (by decide) rfl) hS (lv_sub hl [0, 2, 3, 4] rfl)
                            · obtain ⟨x, hx1⟩ : ∃ x : Nat, (x : Int) = d1 := ⟨d1.toNat, by omega⟩
                              obtain ⟨z, hz1⟩ : ∃ z : Nat, (z : Int) = e2 - d1 := ⟨(e2 - d1).toNat, by omega⟩
                              refine lv_aload_n hx hb dX3_cutLine_139 rfl (lv_at hl 3 rfl) ?_
                              refine lv_iload_n hx hb dX3_cutLine_140 rfl (lv_at hl 1 rfl) ?_
                              refine lx_top (x2 := iI (x : Int)) (congrArg iI hx1.symm) ?_
                              refine lv_iload hx hb dX3_cutLine_141 (lv_at hl 0 rfl) ?_
                              refine lv_iload_n hx hb dX3_cutLine_143 rfl (lv_at hl 1 rfl) ?_
                              refine lx_isub (a := e2) (b := d1) hx hb dX3_cutLine_144 ?_
                              refine lx_top (x2 := iI (z : Int)) (congrArg iI hz1.symm) ?_
                              refine vx_Vv (As := [.int (iI ((x : Int))), .int (iI ((z : Int)))]) (rest := []) (wr := []) (ci := 3) (q0 := 0) [0, 1, 2, 3, 4] [] ⟨hx, hb, hml, hown, hts⟩ (c_X3_word l dC dI cB cI _ m0 mt mi mk mf ml tc n w ks 0 (i + 1) f kf fa la hn hfit hkf (by omega) x z (by omega) (by omega)) (cwV 2 hts (gd_V tw_346 tw_348 tw_16 tw_22 tw_349) rfl rfl rfl (by decide +kernel) ⟨Nat.le_of_ble_eq_true rfl, Nat.le_of_ble_eq_true rfl⟩) hK hP hD hS hA rfl rfl rfl rfl (by decide) rfl rfl rfl rfl hl.1 rfl (Nat.le_of_ble_eq_true rfl) dX3_cutLine_145 ⟨Nat.zero_le _, Nat.zero_le _⟩ (fun u H locs hw hP hD hS => ?_)
                              obtain ⟨k1, rfl⟩ : ∃ z, z = u := ⟨_, rfl⟩
                              try dsimp only at hw hP hD
                              obtain ⟨hk1, hk2, hk3⟩ := hw
                              have hP : va_P (dC, dI) vwCl [(m0, .inr (3, [.ref mt, .ref mi, .ref mk, .ref mf, .ref ml, .int (iI ((tc : Int))), .int (iI ((n : Int))), .int (iI (((w + 1 : Nat) : Int))), .int (iI (((ks + z : Nat) : Int))), .int (iI (0)), .int (iI (i + 1))])), (mi, .inl (cB, 65536, .inl (f))), (mk, .inl (cB, 65536, .inl (k1))), (mf, .inl (cI, 1025, .inl (fun k => iI ((updZ fa w (ks : Int)) k)))), (ml, .inl (cI, 1025, .inl (fun k => iI ((updZ la w (z : Int)) k))))] H := hP.sub [0, 1, 2, 3, 4] rfl
                              have hD : va_D A [(m0, .inr (3, [.ref mt, .ref mi, .ref mk, .ref mf, .ref ml, .int (iI ((tc : Int))), .int (iI ((n : Int))), .int (iI (((w + 1 : Nat) : Int))), .int (iI (((ks + z : Nat) : Int))), .int (iI (0)), .int (iI (i + 1))])), (mi, .inl (cB, 65536, .inl (f))), (mk, .inl (cB, 65536, .inl (k1))), (mf, .inl (cI, 1025, .inl (fun k => iI ((updZ fa w (ks : Int)) k)))), (ml, .inl (cI, 1025, .inl (fun k => iI ((updZ la w (z : Int)) k))))] := hD.sub [0, 1, 2, 3, 4] (by decide) rfl
                              refine lv_iload hx hb dX3_cutLine_148 (lv_at hl 0 rfl) ?_
                              refine lv_iconst (v := iI (1)) hx hb dX3_cutLine_150 rfl ?_
                              refine lx_iadd (a := e2) (b := 1) hx hb dX3_cutLine_151 ?_
                              refine lv_istore_n (lv' := [(3, .int (iI (e2 + 1))), (4, .int (iI (e2))), (2, .int (iI (T))), (0, .ref m0), (1, .int (iI (i)))]) hx hb dX3_cutLine_152 rfl hl (by decide) rfl (fun ls hl => ?_)
                              refine lv_goto (tgt := 101) hx hb dX3_cutLine_153 (by decide) ?_
                              exact ih2 (e2 + 1) (w + 1) (ks + z) (k1) (updZ fa w (ks : Int)) (updZ la w (z : Int)) (ws ++ [((x : Int), (z : Int))]) _ _ ls (by omega) (by rw [hx1, hz1, ← zS_w (by omega) (by omega) (by omega)]; exact hz3) (mR_add hmr hk2 hk3) (by omega) (hk1) (hP.sub [0, 1, 2, 3, 4] rfl) (hD.sub [0, 1, 2, 3, 4] (by decide) rfl) hS (lv_sub hl [0, 2, 3, 4] rfl)
                          · exact absurd cq35 (by omega)
                        | succ k3 ih3 =>
                          intro e2 ls he2 hz3 hl
                          refine lv_iload hx hb dX3_cutLine_109 (lv_at hl 0 rfl) ?_
                          refine lv_iload_n hx hb dX3_cutLine_111 rfl (lv_at hl 2 rfl) ?_
                          refine lx_icmp_ge (a := e2) (b := T) (tgt := 133) hx hb dX3_cutLine_112 (by decide) (by omega) (by omega) (fun cq37 => ?_) (fun cq37 => ?_)
                          · refine lv_iload hx hb dX3_cutLine_133 (lv_at hl 0 rfl) ?_
                            refine lv_iload_n hx hb dX3_cutLine_135 rfl (lv_at hl 1 rfl) ?_
                            refine lx_icmp_le (a := e2) (b := d1) (tgt := 148) hx hb dX3_cutLine_136 (by decide) (by omega) (by omega) (fun cq38 => ?_) (fun cq38 => ?_)
                            · refine lv_iload hx hb dX3_cutLine_148 (lv_at hl 0 rfl) ?_
                              refine lv_iconst (v := iI (1)) hx hb dX3_cutLine_150 rfl ?_
                              refine lx_iadd (a := e2) (b := 1) hx hb dX3_cutLine_151 ?_
                              refine lv_istore_n (lv' := [(3, .int (iI (e2 + 1))), (4, .int (iI (e2))), (2, .int (iI (T))), (0, .ref m0), (1, .int (iI (i)))]) hx hb dX3_cutLine_152 rfl hl (by decide) rfl (fun ls hl => ?_)
                              refine lv_goto (tgt := 101) hx hb dX3_cutLine_153 (by decide) ?_
                              exact ih2 (e2 + 1) (w) (ks) (kf) (fa) (la) (ws) _ _ ls (by omega) (by rw [← zS_s (c := d1) (by omega) (by omega) (by omega)]; exact hz3) (hmr) (by omega) (hkf) (hP.sub [0, 1, 2, 3, 4] rfl) (hD.sub [0, 1, 2, 3, 4] (by decide) rfl) hS (lv_sub hl [0, 2, 3, 4] rfl)
                            · obtain ⟨x, hx1⟩ : ∃ x : Nat, (x : Int) = d1 := ⟨d1.toNat, by omega⟩
                              obtain ⟨z, hz1⟩ : ∃ z : Nat, (z : Int) = e2 - d1 := ⟨(e2 - d1).toNat, by omega⟩
                              refine lv_aload_n hx hb dX3_cutLine_139 rfl (lv_at hl 3 rfl) ?_
                              refine lv_iload_n hx hb dX3_cutLine_140 rfl (lv_at hl 1 rfl) ?_
                              refine lx_top (x2 := iI (x : Int)) (congrArg iI hx1.symm) ?_
                              refine lv_iload hx hb dX3_cutLine_141 (lv_at hl 0 rfl) ?_
                              refine lv_iload_n hx hb dX3_cutLine_143 rfl (lv_at hl 1 rfl) ?_
                              refine lx_isub (a := e2) (b := d1) hx hb dX3_cutLine_144 ?_
                              refine lx_top (x2 := iI (z : Int)) (congrArg iI hz1.symm) ?_
                              refine vx_Vv (As := [.int (iI ((x : Int))), .int (iI ((z : Int)))]) (rest := []) (wr := []) (ci := 3) (q0 := 0) [0, 1, 2, 3, 4] [] ⟨hx, hb, hml, hown, hts⟩ (c_X3_word l dC dI cB cI _ m0 mt mi mk mf ml tc n w ks 0 (i + 1) f kf fa la hn hfit hkf (by omega) x z (by omega) (by omega)) (cwV 2 hts (gd_V tw_346 tw_348 tw_16 tw_22 tw_349) rfl rfl rfl (by decide +kernel) ⟨Nat.le_of_ble_eq_true rfl, Nat.le_of_ble_eq_true rfl⟩) hK hP hD hS hA rfl rfl rfl rfl (by decide) rfl rfl rfl rfl hl.1 rfl (Nat.le_of_ble_eq_true rfl) dX3_cutLine_145 ⟨Nat.zero_le _, Nat.zero_le _⟩ (fun u H locs hw hP hD hS => ?_)
                              obtain ⟨k1, rfl⟩ : ∃ z, z = u := ⟨_, rfl⟩
                              try dsimp only at hw hP hD
                              obtain ⟨hk1, hk2, hk3⟩ := hw
                              have hP : va_P (dC, dI) vwCl [(m0, .inr (3, [.ref mt, .ref mi, .ref mk, .ref mf, .ref ml, .int (iI ((tc : Int))), .int (iI ((n : Int))), .int (iI (((w + 1 : Nat) : Int))), .int (iI (((ks + z : Nat) : Int))), .int (iI (0)), .int (iI (i + 1))])), (mi, .inl (cB, 65536, .inl (f))), (mk, .inl (cB, 65536, .inl (k1))), (mf, .inl (cI, 1025, .inl (fun k => iI ((updZ fa w (ks : Int)) k)))), (ml, .inl (cI, 1025, .inl (fun k => iI ((updZ la w (z : Int)) k))))] H := hP.sub [0, 1, 2, 3, 4] rfl
                              have hD : va_D A [(m0, .inr (3, [.ref mt, .ref mi, .ref mk, .ref mf, .ref ml, .int (iI ((tc : Int))), .int (iI ((n : Int))), .int (iI (((w + 1 : Nat) : Int))), .int (iI (((ks + z : Nat) : Int))), .int (iI (0)), .int (iI (i + 1))])), (mi, .inl (cB, 65536, .inl (f))), (mk, .inl (cB, 65536, .inl (k1))), (mf, .inl (cI, 1025, .inl (fun k => iI ((updZ fa w (ks : Int)) k)))), (ml, .inl (cI, 1025, .inl (fun k => iI ((updZ la w (z : Int)) k))))] := hD.sub [0, 1, 2, 3, 4] (by decide) rfl
                              refine lv_iload hx hb dX3_cutLine_148 (lv_at hl 0 rfl) ?_
                              refine lv_iconst (v := iI (1)) hx hb dX3_cutLine_150 rfl ?_
                              refine lx_iadd (a := e2) (b := 1) hx hb dX3_cutLine_151 ?_
                              refine lv_istore_n (lv' := [(3, .int (iI (e2 + 1))), (4, .int (iI (e2))), (2, .int (iI (T))), (0, .ref m0), (1, .int (iI (i)))]) hx hb dX3_cutLine_152 rfl hl (by decide) rfl (fun ls hl => ?_)
                              refine lv_goto (tgt := 101) hx hb dX3_cutLine_153 (by decide) ?_
                              exact ih2 (e2 + 1) (w + 1) (ks + z) (k1) (updZ fa w (ks : Int)) (updZ la w (z : Int)) (ws ++ [((x : Int), (z : Int))]) _ _ ls (by omega) (by rw [hx1, hz1, ← zS_w (by omega) (by omega) (by omega)]; exact hz3) (mR_add hmr hk2 hk3) (by omega) (hk1) (hP.sub [0, 1, 2, 3, 4] rfl) (hD.sub [0, 1, 2, 3, 4] (by decide) rfl) hS (lv_sub hl [0, 2, 3, 4] rfl)
                          · refine lv_aload_n hx hb dX3_cutLine_115 rfl (lv_at hl 3 rfl) ?_
                            refine va_get (D := (dC, dI)) (ci := 3) (v := .ref mi) (C := "RequestCutterModel") (T := TX3) (N := 11) hx hb hts (fun w h => List.mem_cons_of_mem _ (inX3 w h)) hown hK hP 0 rfl rfl 1 (by decide) (hts _ (List.mem_cons_of_mem _ tw_267)) (fun _ h9 => h9) rfl dX3_cutLine_116 ?_
                            refine lv_iload hx hb dX3_cutLine_119 (lv_at hl 0 rfl) ?_
                            refine va_bald hx hb hK hP 1 0 rfl rfl (iI_in (by omega)) dX3_cutLine_121 ?_
                            refine lx_top (x2 := (f) ((e2).toNat)) (congrArg (f) (iI_cl (a := e2) (by omega))) ?_
                            refine lx_top (x2 := iI (((f) ((e2).toNat)).toInt)) (Int32.ofInt_toInt _).symm ?_
                            have g_m := mA hfit n (e2) (by omega)
                            refine lv_bipush (v := iI (32)) hx hb dX3_cutLine_122 (by decide) ?_
                            refine lx_icmp_eq (a := ((f) ((e2).toNat)).toInt) (b := 32) (tgt := 133) hx hb dX3_cutLine_124 (by decide) (by omega) (by omega) (fun cq39 => ?_) (fun cq39 => ?_)
                            · refine lv_iload hx hb dX3_cutLine_133 (lv_at hl 0 rfl) ?_
                              refine lv_iload_n hx hb dX3_cutLine_135 rfl (lv_at hl 1 rfl) ?_
                              refine lx_icmp_le (a := e2) (b := d1) (tgt := 148) hx hb dX3_cutLine_136 (by decide) (by omega) (by omega) (fun cq40 => ?_) (fun cq40 => ?_)
                              · refine lv_iload hx hb dX3_cutLine_148 (lv_at hl 0 rfl) ?_
                                refine lv_iconst (v := iI (1)) hx hb dX3_cutLine_150 rfl ?_
                                refine lx_iadd (a := e2) (b := 1) hx hb dX3_cutLine_151 ?_
                                refine lv_istore_n (lv' := [(3, .int (iI (e2 + 1))), (4, .int (iI (e2))), (2, .int (iI (T))), (0, .ref m0), (1, .int (iI (i)))]) hx hb dX3_cutLine_152 rfl hl (by decide) rfl (fun ls hl => ?_)
                                refine lv_goto (tgt := 101) hx hb dX3_cutLine_153 (by decide) ?_
                                exact ih2 (e2 + 1) (w) (ks) (kf) (fa) (la) (ws) _ _ ls (by omega) (by rw [← zS_s (c := d1) (by omega) (by omega) (by omega)]; exact hz3) (hmr) (by omega) (hkf) (hP.sub [0, 1, 2, 3, 4] rfl) (hD.sub [0, 1, 2, 3, 4] (by decide) rfl) hS (lv_sub hl [0, 2, 3, 4] rfl)
                              · obtain ⟨x, hx1⟩ : ∃ x : Nat, (x : Int) = d1 := ⟨d1.toNat, by omega⟩
                                obtain ⟨z, hz1⟩ : ∃ z : Nat, (z : Int) = e2 - d1 := ⟨(e2 - d1).toNat, by omega⟩
                                refine lv_aload_n hx hb dX3_cutLine_139 rfl (lv_at hl 3 rfl) ?_
                                refine lv_iload_n hx hb dX3_cutLine_140 rfl (lv_at hl 1 rfl) ?_
                                refine lx_top (x2 := iI (x : Int)) (congrArg iI hx1.symm) ?_
                                refine lv_iload hx hb dX3_cutLine_141 (lv_at hl 0 rfl) ?_
                                refine lv_iload_n hx hb dX3_cutLine_143 rfl (lv_at hl 1 rfl) ?_
                                refine lx_isub (a := e2) (b := d1) hx hb dX3_cutLine_144 ?_
                                refine lx_top (x2 := iI (z : Int)) (congrArg iI hz1.symm) ?_
                                refine vx_Vv (As := [.int (iI ((x : Int))), .int (iI ((z : Int)))]) (rest := []) (wr := []) (ci := 3) (q0 := 0) [0, 1, 2, 3, 4] [] ⟨hx, hb, hml, hown, hts⟩ (c_X3_word l dC dI cB cI _ m0 mt mi mk mf ml tc n w ks 0 (i + 1) f kf fa la hn hfit hkf (by omega) x z (by omega) (by omega)) (cwV 2 hts (gd_V tw_346 tw_348 tw_16 tw_22 tw_349) rfl rfl rfl (by decide +kernel) ⟨Nat.le_of_ble_eq_true rfl, Nat.le_of_ble_eq_true rfl⟩) hK hP hD hS hA rfl rfl rfl rfl (by decide) rfl rfl rfl rfl hl.1 rfl (Nat.le_of_ble_eq_true rfl) dX3_cutLine_145 ⟨Nat.zero_le _, Nat.zero_le _⟩ (fun u H locs hw hP hD hS => ?_)
                                obtain ⟨k1, rfl⟩ : ∃ z, z = u := ⟨_, rfl⟩
                                try dsimp only at hw hP hD
                                obtain ⟨hk1, hk2, hk3⟩ := hw
                                have hP : va_P (dC, dI) vwCl [(m0, .inr (3, [.ref mt, .ref mi, .ref mk, .ref mf, .ref ml, .int (iI ((tc : Int))), .int (iI ((n : Int))), .int (iI (((w + 1 : Nat) : Int))), .int (iI (((ks + z : Nat) : Int))), .int (iI (0)), .int (iI (i + 1))])), (mi, .inl (cB, 65536, .inl (f))), (mk, .inl (cB, 65536, .inl (k1))), (mf, .inl (cI, 1025, .inl (fun k => iI ((updZ fa w (ks : Int)) k)))), (ml, .inl (cI, 1025, .inl (fun k => iI ((updZ la w (z : Int)) k))))] H := hP.sub [0, 1, 2, 3, 4] rfl
                                have hD : va_D A [(m0, .inr (3, [.ref mt, .ref mi, .ref mk, .ref mf, .ref ml, .int (iI ((tc : Int))), .int (iI ((n : Int))), .int (iI (((w + 1 : Nat) : Int))), .int (iI (((ks + z : Nat) : Int))), .int (iI (0)), .int (iI (i + 1))])), (mi, .inl (cB, 65536, .inl (f))), (mk, .inl (cB, 65536, .inl (k1))), (mf, .inl (cI, 1025, .inl (fun k => iI ((updZ fa w (ks : Int)) k)))), (ml, .inl (cI, 1025, .inl (fun k => iI ((updZ la w (z : Int)) k))))] := hD.sub [0, 1, 2, 3, 4] (by decide) rfl
                                refine lv_iload hx hb dX3_cutLine_148 (lv_at hl 0 rfl) ?_
                                refine lv_iconst (v := iI (1)) hx hb dX3_cutLine_150 rfl ?_
                                refine lx_iadd (a := e2) (b := 1) hx hb dX3_cutLine_151 ?_
                                refine lv_istore_n (lv' := [(3, .int (iI (e2 + 1))), (4, .int (iI (e2))), (2, .int (iI (T))), (0, .ref m0), (1, .int (iI (i)))]) hx hb dX3_cutLine_152 rfl hl (by decide) rfl (fun ls hl => ?_)
                                refine lv_goto (tgt := 101) hx hb dX3_cutLine_153 (by decide) ?_
                                exact ih2 (e2 + 1) (w + 1) (ks + z) (k1) (updZ fa w (ks : Int)) (updZ la w (z : Int)) (ws ++ [((x : Int), (z : Int))]) _ _ ls (by omega) (by rw [hx1, hz1, ← zS_w (by omega) (by omega) (by omega)]; exact hz3) (mR_add hmr hk2 hk3) (by omega) (hk1) (hP.sub [0, 1, 2, 3, 4] rfl) (hD.sub [0, 1, 2, 3, 4] (by decide) rfl) hS (lv_sub hl [0, 2, 3, 4] rfl)
                            · refine lv_iinc (v := iI (e2 + 1)) (lv' := [(4, .int (iI (e2 + 1))), (3, .int (iI (d1))), (2, .int (iI (T))), (0, .ref m0), (1, .int (iI (i)))]) hx hb dX3_cutLine_127 hl (k := 0) rfl (iI_add _ _) (by decide) rfl (fun ls hl => ?_)
                              refine lv_goto (tgt := 109) hx hb dX3_cutLine_130 (by decide) ?_
                              exact ih3 (e2 + 1) ls (by omega) (by rw [← zS_n (by omega) (by omega)]; exact hz3) (lv_sub hl [0, 1, 2, 3, 4] rfl)
              · exact absurd cq14 (by omega)
          · exact absurd cq12 (by omega)
        · refine lv_iinc (v := iI (i + 1)) (lv' := [(1, .int (iI (i + 1))), (0, .ref m0)]) hx hb dX3_cutLine_28 hl (k := 0) rfl (iI_add _ _) (by decide) rfl (fun ls hl => ?_)
          refine lv_goto (tgt := 2) hx hb dX3_cutLine_31 (by decide) ?_
          exact ih (i + 1) ls (by omega) (by omega) (by rw [← hz]; exact (if_neg (by omega)).symm) (lv_sub hl [0, 1] rfl)
set_option maxHeartbeats 4000000 in
set_option maxRecDepth 100000 in
/-- cut() -/
theorem c_X3_cut (l : Launch) (dC : Nat → ClassId) (dI : Nat → Nat → Nat) (cB cI : ClassId) (sz : Nat) (m0 mt mi mk mf ml tc n w ks : Nat) (ft pa : Int) (f kf : Nat → Int32) (fa la : Nat → Int) (hn : n ≤ 65536) (hfit : sb_Fit f) (hkf : sb_Fit kf) : Met l yX3_cut wX3_cut ({ frames := 3, cells := 0, slots := 0, locals := 75 }) (va_Pc [.ref m0] (vx_B (dC, dI) vwCl [(cB, .byte), (cI, .int)] [(m0, .inr (3, [.ref mt, .ref mi, .ref mk, .ref mf, .ref ml, .int (iI ((tc : Int))), .int (iI ((n : Int))), .int (iI ((w : Int))), .int (iI ((ks : Int))), .int (iI (ft)), .int (iI (pa))])), (mi, .inl (cB, 65536, .inl (f))), (mk, .inl (cB, 65536, .inl (kf))), (mf, .inl (cI, 1025, .inl (fun k => iI (fa k)))), (ml, .inl (cI, 1025, .inl (fun k => iI (la k))))] sz)) (va_Qi (fun (r : Int32) (u : Nat × (Nat → Int32) × Int × Int × Nat × Nat × (Nat → Int32) × (Nat → Int) × (Nat → Int)) => r = iI (if (zCut (bA f n) n).1 < 0 then (zCut (bA f n) n).1 else ((zCut (bA f n) n).2.2.length : Int)) ∧ u.2.2.1 = (if (zCut (bA f n) n).1 = -2 then (zCut (bA f n) n).2.1 else 0) ∧ sb_Fit u.2.1 ∧ sb_Fit u.2.2.2.2.2.2.1 ∧ ((zCut (bA f n) n).1 < 0 → u.1 = n ∧ u.2.1 = f ∧ u.2.2.2.2.1 = 0) ∧ (0 ≤ (zCut (bA f n) n).1 → u.1 = n - (zCut (bA f n) n).1.toNat ∧ (∀ j, j < n - (zCut (bA f n) n).1.toNat → u.2.1 j = f ((zCut (bA f n) n).1.toNat + j)) ∧ mR f u.2.2.2.2.2.2.1 (zCut (bA f n) n).2.2 u.2.2.2.2.1 u.2.2.2.2.2.1 u.2.2.2.2.2.2.2.1 u.2.2.2.2.2.2.2.2 ∧ u.2.2.2.2.1 ≤ 1024 ∧ (u.2.2.2.2.2.1 : Int) ≤ (zCut (bA f n) n).1)) (fun (u : Nat × (Nat → Int32) × Int × Int × Nat × Nat × (Nat → Int32) × (Nat → Int) × (Nat → Int)) => vx_E (dC, dI) vwCl [(cB, .byte), (cI, .int)] (va_A [(m0, .inr (3, [.ref mt, .ref mi, .ref mk, .ref mf, .ref ml, .int (iI ((tc : Int))), .int (iI ((n : Int))), .int (iI ((w : Int))), .int (iI ((ks : Int))), .int (iI (ft)), .int (iI (pa))])), (mi, .inl (cB, 65536, .inl (f))), (mk, .inl (cB, 65536, .inl (kf))), (mf, .inl (cI, 1025, .inl (fun k => iI (fa k)))), (ml, .inl (cI, 1025, .inl (fun k => iI (la k))))] sz) [(m0, .inr (3, [.ref mt, .ref mi, .ref mk, .ref mf, .ref ml, .int (iI ((tc : Int))), .int (iI ((u.1 : Int))), .int (iI ((u.2.2.2.2.1 : Int))), .int (iI ((u.2.2.2.2.2.1 : Int))), .int (iI (u.2.2.1)), .int (iI (u.2.2.2.1))])), (mi, .inl (cB, 65536, .inl (u.2.1))), (mk, .inl (cB, 65536, .inl (u.2.2.2.2.2.2.1))), (mf, .inl (cI, 1025, .inl (fun k => iI (u.2.2.2.2.2.2.2.1 k)))), (ml, .inl (cI, 1025, .inl (fun k => iI (u.2.2.2.2.2.2.2.2 k))))]) (va_A [(m0, .inr (3, [.ref mt, .ref mi, .ref mk, .ref mf, .ref ml, .int (iI ((tc : Int))), .int (iI ((n : Int))), .int (iI ((w : Int))), .int (iI ((ks : Int))), .int (iI (ft)), .int (iI (pa))])), (mi, .inl (cB, 65536, .inl (f))), (mk, .inl (cB, 65536, .inl (kf))), (mf, .inl (cI, 1025, .inl (fun k => iI (fa k)))), (ml, .inl (cI, 1025, .inl (fun k => iI (la k))))] sz)) (0) (0) (va_A [(m0, .inr (3, [.ref mt, .ref mi, .ref mk, .ref mf, .ref ml, .int (iI ((tc : Int))), .int (iI ((n : Int))), .int (iI ((w : Int))), .int (iI ((ks : Int))), .int (iI (ft)), .int (iI (pa))])), (mi, .inl (cB, 65536, .inl (f))), (mk, .inl (cB, 65536, .inl (kf))), (mf, .inl (cI, 1025, .inl (fun k => iI (fa k)))), (ml, .inl (cI, 1025, .inl (fun k => iI (la k))))] sz) := by
  refine Met.ofW (cc := cX3_cut) (maxL := 2) (ret := (some .int)) (by decide) rfl ?_
  intro p e s m args below meth c s₁ B hml hv
  obtain ⟨rfl, hsz, hP, hK, hD0⟩ := hv
  have hx := B.exec
  have hb := B.bytes
  have hr := B.returns
  have hts := atoms_spec (ws := wX3_cut) B.pre
  have hown : s.vm.findClass "RequestCutterModel" = some m.cls := findClass_of_methodNamed B.named
  have hlocks := B.notSynchronized
  subst hsz
  have hD := hD0.self (sz := s.heap.size)
  generalize hAe : va_A [(m0, .inr (3, [.ref mt, .ref mi, .ref mk, .ref mf, .ref ml, .int (iI ((tc : Int))), .int (iI ((n : Int))), .int (iI ((w : Int))), .int (iI ((ks : Int))), .int (iI (ft)), .int (iI (pa))])), (mi, .inl (cB, 65536, .inl (f))), (mk, .inl (cB, 65536, .inl (kf))), (mf, .inl (cI, 1025, .inl (fun k => iI (fa k)))), (ml, .inl (cI, 1025, .inl (fun k => iI (la k))))] s.heap.size = A at hD ⊢
  have hA : ∀ q : Nat, s.heap.size ≤ q → A q := fun q h => by rw [← hAe]; exact Or.inr h
  have hS : va_S A s.heap s.heap [] := va_S.rf
  have hP : va_P (dC, dI) vwCl [(m0, .inr (3, [.ref mt, .ref mi, .ref mk, .ref mf, .ref ml, .int (iI ((tc : Int))), .int (iI ((n : Int))), .int (iI ((w : Int))), .int (iI ((ks : Int))), .int (iI (ft)), .int (iI (pa))])), (mi, .inl (cB, 65536, .inl (f))), (mk, .inl (cB, 65536, .inl (kf))), (mf, .inl (cI, 1025, .inl (fun k => iI (fa k)))), (ml, .inl (cI, 1025, .inl (fun k => iI (la k))))] s.heap := hP
  have hl := lv_entry ([.ref m0]) (n := 2) (Nat.le_of_ble_eq_true rfl)
  rw [lg_entry_eq]
  generalize (lg_sl ([.ref m0]) ++ List.replicate (2 - (lg_sl ([.ref m0])).length) Slot.unset).toArray = ls at hl ⊢
  have hl : lv_has ls 2 [(0, .ref m0)] := hl
  refine lv_aload_n hx hb dX3_cut_0 rfl (lv_at hl 0 rfl) ?_
  refine lv_iconst (v := iI (0)) hx hb dX3_cut_1 rfl ?_
  refine va_put (D := (dC, dI)) (ci := 3) (v := .int (iI (((0 : Nat) : Int)))) (ty := .int) (C := "RequestCutterModel") (T := TX3) (N := 11) hx hb hts (fun w h => List.mem_cons_of_mem _ (inX3 w h)) tyX3 tyX3_ok nmX3 hown hK hP hD hS 0 rfl rfl 7 (by decide) (hts _ (List.mem_cons_of_mem _ tw_273)) (fun _ h9 => h9) rfl (by decide +kernel) rfl rfl (Nat.le_of_ble_eq_true rfl) dX3_cut_2 (fun H locs hP hD hS => ?_)
  have hP : va_P (dC, dI) vwCl [(m0, .inr (3, [.ref mt, .ref mi, .ref mk, .ref mf, .ref ml, .int (iI ((tc : Int))), .int (iI ((n : Int))), .int (iI (((0 : Nat) : Int))), .int (iI ((ks : Int))), .int (iI (ft)), .int (iI (pa))])), (mi, .inl (cB, 65536, .inl (f))), (mk, .inl (cB, 65536, .inl (kf))), (mf, .inl (cI, 1025, .inl (fun k => iI (fa k)))), (ml, .inl (cI, 1025, .inl (fun k => iI (la k))))] H := hP
  have hD : va_D A [(m0, .inr (3, [.ref mt, .ref mi, .ref mk, .ref mf, .ref ml, .int (iI ((tc : Int))), .int (iI ((n : Int))), .int (iI (((0 : Nat) : Int))), .int (iI ((ks : Int))), .int (iI (ft)), .int (iI (pa))])), (mi, .inl (cB, 65536, .inl (f))), (mk, .inl (cB, 65536, .inl (kf))), (mf, .inl (cI, 1025, .inl (fun k => iI (fa k)))), (ml, .inl (cI, 1025, .inl (fun k => iI (la k))))] := hD
  refine lv_aload_n hx hb dX3_cut_5 rfl (lv_at hl 0 rfl) ?_
  refine lv_iconst (v := iI (0)) hx hb dX3_cut_6 rfl ?_
  refine va_put (D := (dC, dI)) (ci := 3) (v := .int (iI (((0 : Nat) : Int)))) (ty := .int) (C := "RequestCutterModel") (T := TX3) (N := 11) hx hb hts (fun w h => List.mem_cons_of_mem _ (inX3 w h)) tyX3 tyX3_ok nmX3 hown hK hP hD hS 0 rfl rfl 8 (by decide) (hts _ (List.mem_cons_of_mem _ tw_274)) (fun _ h9 => h9) rfl (by decide +kernel) rfl rfl (Nat.le_of_ble_eq_true rfl) dX3_cut_7 (fun H locs hP hD hS => ?_)
  have hP : va_P (dC, dI) vwCl [(m0, .inr (3, [.ref mt, .ref mi, .ref mk, .ref mf, .ref ml, .int (iI ((tc : Int))), .int (iI ((n : Int))), .int (iI (((0 : Nat) : Int))), .int (iI (((0 : Nat) : Int))), .int (iI (ft)), .int (iI (pa))])), (mi, .inl (cB, 65536, .inl (f))), (mk, .inl (cB, 65536, .inl (kf))), (mf, .inl (cI, 1025, .inl (fun k => iI (fa k)))), (ml, .inl (cI, 1025, .inl (fun k => iI (la k))))] H := hP
  have hD : va_D A [(m0, .inr (3, [.ref mt, .ref mi, .ref mk, .ref mf, .ref ml, .int (iI ((tc : Int))), .int (iI ((n : Int))), .int (iI (((0 : Nat) : Int))), .int (iI (((0 : Nat) : Int))), .int (iI (ft)), .int (iI (pa))])), (mi, .inl (cB, 65536, .inl (f))), (mk, .inl (cB, 65536, .inl (kf))), (mf, .inl (cI, 1025, .inl (fun k => iI (fa k)))), (ml, .inl (cI, 1025, .inl (fun k => iI (la k))))] := hD
  refine lv_aload_n hx hb dX3_cut_10 rfl (lv_at hl 0 rfl) ?_
  refine lv_iconst (v := iI (0)) hx hb dX3_cut_11 rfl ?_
  refine va_put (D := (dC, dI)) (ci := 3) (v := .int (iI (0))) (ty := .int) (C := "RequestCutterModel") (T := TX3) (N := 11) hx hb hts (fun w h => List.mem_cons_of_mem _ (inX3 w h)) tyX3 tyX3_ok nmX3 hown hK hP hD hS 0 rfl rfl 9 (by decide) (hts _ (List.mem_cons_of_mem _ tw_275)) (fun _ h9 => h9) rfl (by decide +kernel) rfl rfl (Nat.le_of_ble_eq_true rfl) dX3_cut_12 (fun H locs hP hD hS => ?_)
  have hP : va_P (dC, dI) vwCl [(m0, .inr (3, [.ref mt, .ref mi, .ref mk, .ref mf, .ref ml, .int (iI ((tc : Int))), .int (iI ((n : Int))), .int (iI (((0 : Nat) : Int))), .int (iI (((0 : Nat) : Int))), .int (iI (0)), .int (iI (pa))])), (mi, .inl (cB, 65536, .inl (f))), (mk, .inl (cB, 65536, .inl (kf))), (mf, .inl (cI, 1025, .inl (fun k => iI (fa k)))), (ml, .inl (cI, 1025, .inl (fun k => iI (la k))))] H := hP
  have hD : va_D A [(m0, .inr (3, [.ref mt, .ref mi, .ref mk, .ref mf, .ref ml, .int (iI ((tc : Int))), .int (iI ((n : Int))), .int (iI (((0 : Nat) : Int))), .int (iI (((0 : Nat) : Int))), .int (iI (0)), .int (iI (pa))])), (mi, .inl (cB, 65536, .inl (f))), (mk, .inl (cB, 65536, .inl (kf))), (mf, .inl (cI, 1025, .inl (fun k => iI (fa k)))), (ml, .inl (cI, 1025, .inl (fun k => iI (la k))))] := hD
  refine lv_aload_n hx hb dX3_cut_15 rfl (lv_at hl 0 rfl) ?_
  refine lv_iconst (v := iI (0)) hx hb dX3_cut_16 rfl ?_
  refine va_put (D := (dC, dI)) (ci := 3) (v := .int (iI (0))) (ty := .int) (C := "RequestCutterModel") (T := TX3) (N := 11) hx hb hts (fun w h => List.mem_cons_of_mem _ (inX3 w h)) tyX3 tyX3_ok nmX3 hown hK hP hD hS 0 rfl rfl 10 (by decide) (hts _ (List.mem_cons_of_mem _ tw_276)) (fun _ h9 => h9) rfl (by decide +kernel) rfl rfl (Nat.le_of_ble_eq_true rfl) dX3_cut_17 (fun H locs hP hD hS => ?_)
  have hP : va_P (dC, dI) vwCl [(m0, .inr (3, [.ref mt, .ref mi, .ref mk, .ref mf, .ref ml, .int (iI ((tc : Int))), .int (iI ((n : Int))), .int (iI (((0 : Nat) : Int))), .int (iI (((0 : Nat) : Int))), .int (iI (0)), .int (iI (0))])), (mi, .inl (cB, 65536, .inl (f))), (mk, .inl (cB, 65536, .inl (kf))), (mf, .inl (cI, 1025, .inl (fun k => iI (fa k)))), (ml, .inl (cI, 1025, .inl (fun k => iI (la k))))] H := hP
  have hD : va_D A [(m0, .inr (3, [.ref mt, .ref mi, .ref mk, .ref mf, .ref ml, .int (iI ((tc : Int))), .int (iI ((n : Int))), .int (iI (((0 : Nat) : Int))), .int (iI (((0 : Nat) : Int))), .int (iI (0)), .int (iI (0))])), (mi, .inl (cB, 65536, .inl (f))), (mk, .inl (cB, 65536, .inl (kf))), (mf, .inl (cI, 1025, .inl (fun k => iI (fa k)))), (ml, .inl (cI, 1025, .inl (fun k => iI (la k))))] := hD
  refine lv_aload_n hx hb dX3_cut_20 rfl (lv_at hl 0 rfl) ?_
  refine va_get (D := (dC, dI)) (ci := 3) (v := .int (iI ((n : Int)))) (C := "RequestCutterModel") (T := TX3) (N := 11) hx hb hts (fun w h => List.mem_cons_of_mem _ (inX3 w h)) hown hK hP 0 rfl rfl 6 (by decide) (hts _ (List.mem_cons_of_mem _ tw_272)) (fun _ h9 => h9) rfl dX3_cut_21 ?_
  refine lx_if_le (a := (n : Int)) (tgt := 59) hx hb dX3_cut_24 (by decide) (by omega) (fun cq1 => ?_) (fun cq1 => ?_)
  · have hZ0 : (zCut (bA f n) n) = (-1, 0, []) := by
      have g0 : bA f n 0 = -1 := bA_out (by omega)
      obtain rfl : n = 0 := by omega
      unfold zCut; rw [if_neg (by omega)]; rfl
    refine lv_iconst (v := iI (0)) hx hb dX3_cut_59 rfl ?_
    refine lv_istore_n (lv' := [(1, .int (iI (0))), (0, .ref m0)]) hx hb dX3_cut_60 rfl hl (by decide) rfl (fun ls hl => ?_)
    refine lv_iload_n hx hb dX3_cut_61 rfl (lv_at hl 0 rfl) ?_
    refine lx_if_ne (a := 0) (tgt := 84) hx hb dX3_cut_62 (by decide) (by omega) (fun cq2 => ?_) (fun cq2 => ?_)
    · exact absurd cq2 (by omega)
    · refine lv_aload_n hx hb dX3_cut_65 rfl (lv_at hl 1 rfl) ?_
      refine lv_iconst (v := iI (0)) hx hb dX3_cut_66 rfl ?_
      refine va_put (D := (dC, dI)) (ci := 3) (v := .int (iI (((0 : Nat) : Int)))) (ty := .int) (C := "RequestCutterModel") (T := TX3) (N := 11) hx hb hts (fun w h => List.mem_cons_of_mem _ (inX3 w h)) tyX3 tyX3_ok nmX3 hown hK hP hD hS 0 rfl rfl 7 (by decide) (hts _ (List.mem_cons_of_mem _ tw_273)) (fun _ h9 => h9) rfl (by decide +kernel) rfl rfl (Nat.le_of_ble_eq_true rfl) dX3_cut_67 (fun H locs hP hD hS => ?_)
      have hP : va_P (dC, dI) vwCl [(m0, .inr (3, [.ref mt, .ref mi, .ref mk, .ref mf, .ref ml, .int (iI ((tc : Int))), .int (iI ((n : Int))), .int (iI (((0 : Nat) : Int))), .int (iI (((0 : Nat) : Int))), .int (iI (0)), .int (iI (0))])), (mi, .inl (cB, 65536, .inl (f))), (mk, .inl (cB, 65536, .inl (kf))), (mf, .inl (cI, 1025, .inl (fun k => iI (fa k)))), (ml, .inl (cI, 1025, .inl (fun k => iI (la k))))] H := hP
      have hD : va_D A [(m0, .inr (3, [.ref mt, .ref mi, .ref mk, .ref mf, .ref ml, .int (iI ((tc : Int))), .int (iI ((n : Int))), .int (iI (((0 : Nat) : Int))), .int (iI (((0 : Nat) : Int))), .int (iI (0)), .int (iI (0))])), (mi, .inl (cB, 65536, .inl (f))), (mk, .inl (cB, 65536, .inl (kf))), (mf, .inl (cI, 1025, .inl (fun k => iI (fa k)))), (ml, .inl (cI, 1025, .inl (fun k => iI (la k))))] := hD
      refine lv_aload_n hx hb dX3_cut_70 rfl (lv_at hl 1 rfl) ?_
      refine va_get (D := (dC, dI)) (ci := 3) (v := .int (iI (0))) (C := "RequestCutterModel") (T := TX3) (N := 11) hx hb hts (fun w h => List.mem_cons_of_mem _ (inX3 w h)) hown hK hP 0 rfl rfl 9 (by decide) (hts _ (List.mem_cons_of_mem _ tw_275)) (fun _ h9 => h9) rfl dX3_cut_71 ?_
      refine lx_if_le (a := 0) (tgt := 82) hx hb dX3_cut_74 (by decide) (by omega) (fun cq3 => ?_) (fun cq3 => ?_)
      · refine lv_iconst (v := iI (-1)) hx hb dX3_cut_82 rfl ?_
        exact W.iret (v := iI (-1)) hx hb hr (fun t ht hW => ⟨⟨iI (-1), (n, f, 0, 0, 0, 0, kf, fa, la), rfl, ⟨by rw [hZ0]; rfl, by rw [hZ0]; rfl, hfit, hkf, fun _ => ⟨rfl, rfl, rfl⟩, fun q => by rw [hZ0] at q; exact absurd q (by decide)⟩, by rw [ht]; exact hP, va_K.moved hW.alike hK, hD⟩, hS.F ht⟩) hS.2.2 dX3_cut_83
      · exact absurd cq3 (by omega)
  · refine lv_aload_n hx hb dX3_cut_27 rfl (lv_at hl 0 rfl) ?_
    refine va_get (D := (dC, dI)) (ci := 3) (v := .ref mi) (C := "RequestCutterModel") (T := TX3) (N := 11) hx hb hts (fun w h => List.mem_cons_of_mem _ (inX3 w h)) hown hK hP 0 rfl rfl 1 (by decide) (hts _ (List.mem_cons_of_mem _ tw_267)) (fun _ h9 => h9) rfl dX3_cut_28 ?_
    refine lv_iconst (v := iI (0)) hx hb dX3_cut_31 rfl ?_
    refine va_bald hx hb hK hP 1 0 rfl rfl (iI_in (by omega)) dX3_cut_32 ?_
    refine lx_top (x2 := (f) ((0 : Int).toNat)) (congrArg (f) (iI_cl (a := 0) (by omega))) ?_
    refine lx_top (x2 := iI (((f) ((0 : Int).toNat)).toInt)) (Int32.ofInt_toInt _).symm ?_
    have g_m := mA hfit n (0) (by omega)
    refine lv_bipush (v := iI (42)) hx hb dX3_cut_33 (by decide) ?_
    refine lx_icmp_ne (a := ((f) ((0 : Int).toNat)).toInt) (b := 42) (tgt := 48) hx hb dX3_cut_35 (by decide) (by omega) (by omega) (fun cq4 => ?_) (fun cq4 => ?_)
    · refine lv_aload_n hx hb dX3_cut_48 rfl (lv_at hl 0 rfl) ?_
      have hZc : (zCut (bA f n) n) = zPlain (bA f n) n := if_neg (by omega)
      obtain ⟨V, hV⟩ : ∃ V, V = (zCut (bA f n) n) := ⟨_, rfl⟩
      have gV := zCut_rg f n
      have gT := zCut_ft (bA f n) n
      rw [← hV] at gV gT ⊢
      refine vx_Vi (As := []) (rest := []) (wr := []) (ci := 3) (q0 := 0) [0, 1, 2, 3, 4] [] ⟨hx, hb, hml, hown, hts⟩ (c_X3_cutLine l dC dI cB cI _ m0 mt mi mk mf ml tc n f kf fa la (by omega) hn hfit hkf) (cwV 0 hts (gd_V tw_350 tw_352 tw_17 tw_22 tw_353) rfl rfl rfl (by decide +kernel) ⟨Nat.le_of_ble_eq_true rfl, Nat.le_of_ble_eq_true rfl⟩) hK hP hD hS hA rfl rfl rfl rfl (by decide) rfl rfl rfl rfl hl.1 rfl (Nat.le_of_ble_eq_true rfl) dX3_cut_49 ⟨Nat.zero_le _, Nat.zero_le _⟩ (fun r u H locs hw hP hD hS => ?_)
      obtain ⟨ft1, pa1, w1, ks1, kf1, fa1, la1⟩ := u
      try dsimp only at hw hP hD
      rw [← hZc, ← hV] at hw
      obtain ⟨hr1, hft1, hkf1, hx1⟩ := hw
      have hP : va_P (dC, dI) vwCl [(m0, .inr (3, [.ref mt, .ref mi, .ref mk, .ref mf, .ref ml, .int (iI ((tc : Int))), .int (iI ((n : Int))), .int (iI ((w1 : Int))), .int (iI ((ks1 : Int))), .int (iI (ft1)), .int (iI (pa1))])), (mi, .inl (cB, 65536, .inl (f))), (mk, .inl (cB, 65536, .inl (kf1))), (mf, .inl (cI, 1025, .inl (fun k => iI (fa1 k)))), (ml, .inl (cI, 1025, .inl (fun k => iI (la1 k))))] H := hP.sub [0, 1, 2, 3, 4] rfl
      have hD : va_D A [(m0, .inr (3, [.ref mt, .ref mi, .ref mk, .ref mf, .ref ml, .int (iI ((tc : Int))), .int (iI ((n : Int))), .int (iI ((w1 : Int))), .int (iI ((ks1 : Int))), .int (iI (ft1)), .int (iI (pa1))])), (mi, .inl (cB, 65536, .inl (f))), (mk, .inl (cB, 65536, .inl (kf1))), (mf, .inl (cI, 1025, .inl (fun k => iI (fa1 k)))), (ml, .inl (cI, 1025, .inl (fun k => iI (la1 k))))] := hD.sub [0, 1, 2, 3, 4] (by decide) rfl
      obtain ⟨b1, hb1, rfl⟩ := bo_of hr1
      have hft2 : (V.1 = -2 ∧ ft1 = V.2.1) ∨ (¬ V.1 = -2 ∧ ft1 = 0) := by
        by_cases q : V.1 = -2
        · exact Or.inl ⟨q, by rw [hft1, if_pos q]⟩
        · exact Or.inr ⟨q, by rw [hft1, if_neg q]⟩
      refine lx_if_eq (a := b1) (tgt := 59) hx hb dX3_cut_52 (by decide) (by omega) (fun cq5 => ?_) (fun cq5 => ?_)
      · refine lv_iconst (v := iI (0)) hx hb dX3_cut_59 rfl ?_
        refine lv_istore_n (lv' := [(1, .int (iI (0))), (0, .ref m0)]) hx hb dX3_cut_60 rfl hl (by decide) rfl (fun ls hl => ?_)
        refine lv_iload_n hx hb dX3_cut_61 rfl (lv_at hl 0 rfl) ?_
        refine lx_if_ne (a := 0) (tgt := 84) hx hb dX3_cut_62 (by decide) (by omega) (fun cq6 => ?_) (fun cq6 => ?_)
        · exact absurd cq6 (by omega)
        · refine lv_aload_n hx hb dX3_cut_65 rfl (lv_at hl 1 rfl) ?_
          refine lv_iconst (v := iI (0)) hx hb dX3_cut_66 rfl ?_
          refine va_put (D := (dC, dI)) (ci := 3) (v := .int (iI (((0 : Nat) : Int)))) (ty := .int) (C := "RequestCutterModel") (T := TX3) (N := 11) hx hb hts (fun w h => List.mem_cons_of_mem _ (inX3 w h)) tyX3 tyX3_ok nmX3 hown hK hP hD hS 0 rfl rfl 7 (by decide) (hts _ (List.mem_cons_of_mem _ tw_273)) (fun _ h9 => h9) rfl (by decide +kernel) rfl rfl (Nat.le_of_ble_eq_true rfl) dX3_cut_67 (fun H locs hP hD hS => ?_)
          have hP : va_P (dC, dI) vwCl [(m0, .inr (3, [.ref mt, .ref mi, .ref mk, .ref mf, .ref ml, .int (iI ((tc : Int))), .int (iI ((n : Int))), .int (iI (((0 : Nat) : Int))), .int (iI ((ks1 : Int))), .int (iI (ft1)), .int (iI (pa1))])), (mi, .inl (cB, 65536, .inl (f))), (mk, .inl (cB, 65536, .inl (kf1))), (mf, .inl (cI, 1025, .inl (fun k => iI (fa1 k)))), (ml, .inl (cI, 1025, .inl (fun k => iI (la1 k))))] H := hP
          have hD : va_D A [(m0, .inr (3, [.ref mt, .ref mi, .ref mk, .ref mf, .ref ml, .int (iI ((tc : Int))), .int (iI ((n : Int))), .int (iI (((0 : Nat) : Int))), .int (iI ((ks1 : Int))), .int (iI (ft1)), .int (iI (pa1))])), (mi, .inl (cB, 65536, .inl (f))), (mk, .inl (cB, 65536, .inl (kf1))), (mf, .inl (cI, 1025, .inl (fun k => iI (fa1 k)))), (ml, .inl (cI, 1025, .inl (fun k => iI (la1 k))))] := hD
          refine lv_aload_n hx hb dX3_cut_70 rfl (lv_at hl 1 rfl) ?_
          refine va_get (D := (dC, dI)) (ci := 3) (v := .int (iI (ft1))) (C := "RequestCutterModel") (T := TX3) (N := 11) hx hb hts (fun w h => List.mem_cons_of_mem _ (inX3 w h)) hown hK hP 0 rfl rfl 9 (by decide) (hts _ (List.mem_cons_of_mem _ tw_275)) (fun _ h9 => h9) rfl dX3_cut_71 ?_
          refine lx_if_le (a := ft1) (tgt := 82) hx hb dX3_cut_74 (by decide) (by omega) (fun cq7 => ?_) (fun cq7 => ?_)
          · refine lv_iconst (v := iI (-1)) hx hb dX3_cut_82 rfl ?_
            have eV : V.1 = -1 := by omega
            exact W.iret (v := iI (-1)) hx hb hr (fun t ht hW => ⟨⟨iI (-1), (n, f, ft1, pa1, 0, ks1, kf1, fa1, la1), rfl, ⟨by rw [if_pos (by omega), eV], hft1, hfit, hkf1, fun _ => ⟨rfl, rfl, rfl⟩, fun q => by omega⟩, by rw [ht]; exact hP, va_K.moved hW.alike hK, hD⟩, hS.F ht⟩) hS.2.2 dX3_cut_83
          · refine lv_bipush (v := iI (-2)) hx hb dX3_cut_77 (by decide) ?_
            refine lv_goto (tgt := 83) hx hb dX3_cut_79 (by decide) ?_
            have eV : V.1 = -2 := by omega
            exact W.iret (v := iI (-2)) hx hb hr (fun t ht hW => ⟨⟨iI (-2), (n, f, ft1, pa1, 0, ks1, kf1, fa1, la1), rfl, ⟨by rw [if_pos (by omega), eV], hft1, hfit, hkf1, fun _ => ⟨rfl, rfl, rfl⟩, fun q => by omega⟩, by rw [ht]; exact hP, va_K.moved hW.alike hK, hD⟩, hS.F ht⟩) hS.2.2 dX3_cut_83
      · refine lv_iconst (v := iI (1)) hx hb dX3_cut_55 rfl ?_
        refine lv_goto (tgt := 60) hx hb dX3_cut_56 (by decide) ?_
        refine lv_istore_n (lv' := [(1, .int (iI (1))), (0, .ref m0)]) hx hb dX3_cut_60 rfl hl (by decide) rfl (fun ls hl => ?_)
        refine lv_iload_n hx hb dX3_cut_61 rfl (lv_at hl 0 rfl) ?_
        refine lx_if_ne (a := 1) (tgt := 84) hx hb dX3_cut_62 (by decide) (by omega) (fun cq8 => ?_) (fun cq8 => ?_)
        · refine lv_aload_n hx hb dX3_cut_84 rfl (lv_at hl 1 rfl) ?_
          refine lv_aload_n hx hb dX3_cut_85 rfl (lv_at hl 1 rfl) ?_
          refine va_get (D := (dC, dI)) (ci := 3) (v := .int (iI (pa1))) (C := "RequestCutterModel") (T := TX3) (N := 11) hx hb hts (fun w h => List.mem_cons_of_mem _ (inX3 w h)) hown hK hP 0 rfl rfl 10 (by decide) (hts _ (List.mem_cons_of_mem _ tw_276)) (fun _ h9 => h9) rfl dX3_cut_86 ?_
          obtain ⟨hpa1, hmr1, hw1, hks1⟩ := hx1 (by omega)
          obtain ⟨x, hVx⟩ : ∃ x : Nat, V.1 = (x : Int) := ⟨V.1.toNat, by omega⟩
          have hxt : V.1.toNat = x := by omega
          refine lx_top (x2 := iI (x : Int)) (congrArg iI (by omega)) ?_
          refine vx_Vv (As := [.int (iI ((x : Int)))]) (rest := []) (wr := [(mk, .inl (cB, 65536, .inl (kf1))), (mf, .inl (cI, 1025, .inl (fun k => iI (fa1 k)))), (ml, .inl (cI, 1025, .inl (fun k => iI (la1 k))))]) (ci := 3) (q0 := 0) [0, 1] [2, 3, 4] ⟨hx, hb, hml, hown, hts⟩ (c_X3_go l dC dI cB cI _ m0 mt mi mk mf ml tc n w1 ks1 ft1 pa1 f hn hfit x (by omega)) (cwV 1 hts (gd_V tw_320 tw_322 tw_11 tw_22 tw_323) rfl rfl rfl (by decide +kernel) ⟨Nat.le_of_ble_eq_true rfl, Nat.le_of_ble_eq_true rfl⟩) hK hP hD hS hA rfl rfl rfl rfl (by decide) rfl rfl rfl rfl hl.1 rfl (Nat.le_of_ble_eq_true rfl) dX3_cut_89 ⟨Nat.zero_le _, Nat.zero_le _⟩ (fun u H locs hw hP hD hS => ?_)
          obtain ⟨g, rfl⟩ : ∃ z, z = u := ⟨_, rfl⟩
          try dsimp only at hw hP hD
          obtain ⟨hg, hg1⟩ := hw
          have hP : va_P (dC, dI) vwCl [(m0, .inr (3, [.ref mt, .ref mi, .ref mk, .ref mf, .ref ml, .int (iI ((tc : Int))), .int (iI (((n - x : Nat) : Int))), .int (iI ((w1 : Int))), .int (iI ((ks1 : Int))), .int (iI (ft1)), .int (iI (pa1))])), (mi, .inl (cB, 65536, .inl (g))), (mk, .inl (cB, 65536, .inl (kf1))), (mf, .inl (cI, 1025, .inl (fun k => iI (fa1 k)))), (ml, .inl (cI, 1025, .inl (fun k => iI (la1 k))))] H := hP.sub [3, 4, 0, 1, 2] rfl
          have hD : va_D A [(m0, .inr (3, [.ref mt, .ref mi, .ref mk, .ref mf, .ref ml, .int (iI ((tc : Int))), .int (iI (((n - x : Nat) : Int))), .int (iI ((w1 : Int))), .int (iI ((ks1 : Int))), .int (iI (ft1)), .int (iI (pa1))])), (mi, .inl (cB, 65536, .inl (g))), (mk, .inl (cB, 65536, .inl (kf1))), (mf, .inl (cI, 1025, .inl (fun k => iI (fa1 k)))), (ml, .inl (cI, 1025, .inl (fun k => iI (la1 k))))] := hD.sub [3, 4, 0, 1, 2] (by decide) rfl
          refine lv_aload_n hx hb dX3_cut_92 rfl (lv_at hl 1 rfl) ?_
          refine va_get (D := (dC, dI)) (ci := 3) (v := .int (iI ((w1 : Int)))) (C := "RequestCutterModel") (T := TX3) (N := 11) hx hb hts (fun w h => List.mem_cons_of_mem _ (inX3 w h)) hown hK hP 0 rfl rfl 7 (by decide) (hts _ (List.mem_cons_of_mem _ tw_273)) (fun _ h9 => h9) rfl dX3_cut_93 ?_
          exact W.iret (v := iI ((w1 : Int))) hx hb hr (fun t ht hW => ⟨⟨iI ((w1 : Int)), (n - x, g, ft1, pa1, w1, ks1, kf1, fa1, la1), rfl, ⟨by rw [if_neg (by omega), hmr1.1], hft1, hg, hkf1, fun q => by omega, fun _ => by rw [hxt]; exact ⟨rfl, hg1, hmr1, hw1, hks1⟩⟩, by rw [ht]; exact hP, va_K.moved hW.alike hK, hD⟩, hS.F ht⟩) hS.2.2 dX3_cut_96
        · exact absurd cq8 (by omega)
    · refine lv_aload_n hx hb dX3_cut_38 rfl (lv_at hl 0 rfl) ?_
      have hZc : (zCut (bA f n) n) = zCount (bA f n) n := if_pos (by omega)
      obtain ⟨V, hV⟩ : ∃ V, V = (zCut (bA f n) n) := ⟨_, rfl⟩
      have gV := zCut_rg f n
      have gT := zCut_ft (bA f n) n
      rw [← hV] at gV gT ⊢
      refine vx_Vi (As := []) (rest := []) (wr := []) (ci := 3) (q0 := 0) [0, 1, 2, 3, 4] [] ⟨hx, hb, hml, hown, hts⟩ (c_X3_cutTold l dC dI cB cI _ m0 mt mi mk mf ml tc n f kf fa la (by omega) hn hfit hkf) (cwV 0 hts (gd_V tw_328 tw_330 tw_12 tw_22 tw_331) rfl rfl rfl (by decide +kernel) ⟨Nat.le_of_ble_eq_true rfl, Nat.le_of_ble_eq_true rfl⟩) hK hP hD hS hA rfl rfl rfl rfl (by decide) rfl rfl rfl rfl hl.1 rfl (Nat.le_of_ble_eq_true rfl) dX3_cut_39 ⟨Nat.zero_le _, Nat.zero_le _⟩ (fun r u H locs hw hP hD hS => ?_)
      obtain ⟨ft1, pa1, w1, ks1, kf1, fa1, la1⟩ := u
      try dsimp only at hw hP hD
      rw [← hZc, ← hV] at hw
      obtain ⟨hr1, hft1, hkf1, hx1⟩ := hw
      have hP : va_P (dC, dI) vwCl [(m0, .inr (3, [.ref mt, .ref mi, .ref mk, .ref mf, .ref ml, .int (iI ((tc : Int))), .int (iI ((n : Int))), .int (iI ((w1 : Int))), .int (iI ((ks1 : Int))), .int (iI (ft1)), .int (iI (pa1))])), (mi, .inl (cB, 65536, .inl (f))), (mk, .inl (cB, 65536, .inl (kf1))), (mf, .inl (cI, 1025, .inl (fun k => iI (fa1 k)))), (ml, .inl (cI, 1025, .inl (fun k => iI (la1 k))))] H := hP.sub [0, 1, 2, 3, 4] rfl
      have hD : va_D A [(m0, .inr (3, [.ref mt, .ref mi, .ref mk, .ref mf, .ref ml, .int (iI ((tc : Int))), .int (iI ((n : Int))), .int (iI ((w1 : Int))), .int (iI ((ks1 : Int))), .int (iI (ft1)), .int (iI (pa1))])), (mi, .inl (cB, 65536, .inl (f))), (mk, .inl (cB, 65536, .inl (kf1))), (mf, .inl (cI, 1025, .inl (fun k => iI (fa1 k)))), (ml, .inl (cI, 1025, .inl (fun k => iI (la1 k))))] := hD.sub [0, 1, 2, 3, 4] (by decide) rfl
      obtain ⟨b1, hb1, rfl⟩ := bo_of hr1
      have hft2 : (V.1 = -2 ∧ ft1 = V.2.1) ∨ (¬ V.1 = -2 ∧ ft1 = 0) := by
        by_cases q : V.1 = -2
        · exact Or.inl ⟨q, by rw [hft1, if_pos q]⟩
        · exact Or.inr ⟨q, by rw [hft1, if_neg q]⟩
      refine lx_if_eq (a := b1) (tgt := 59) hx hb dX3_cut_42 (by decide) (by omega) (fun cq9 => ?_) (fun cq9 => ?_)
      · refine lv_iconst (v := iI (0)) hx hb dX3_cut_59 rfl ?_
        refine lv_istore_n (lv' := [(1, .int (iI (0))), (0, .ref m0)]) hx hb dX3_cut_60 rfl hl (by decide) rfl (fun ls hl => ?_)
        refine lv_iload_n hx hb dX3_cut_61 rfl (lv_at hl 0 rfl) ?_
        refine lx_if_ne (a := 0) (tgt := 84) hx hb dX3_cut_62 (by decide) (by omega) (fun cq10 => ?_) (fun cq10 => ?_)
        · exact absurd cq10 (by omega)
        · refine lv_aload_n hx hb dX3_cut_65 rfl (lv_at hl 1 rfl) ?_
          refine lv_iconst (v := iI (0)) hx hb dX3_cut_66 rfl ?_
          refine va_put (D := (dC, dI)) (ci := 3) (v := .int (iI (((0 : Nat) : Int)))) (ty := .int) (C := "RequestCutterModel") (T := TX3) (N := 11) hx hb hts (fun w h => List.mem_cons_of_mem _ (inX3 w h)) tyX3 tyX3_ok nmX3 hown hK hP hD hS 0 rfl rfl 7 (by decide) (hts _ (List.mem_cons_of_mem _ tw_273)) (fun _ h9 => h9) rfl (by decide +kernel) rfl rfl (Nat.le_of_ble_eq_true rfl) dX3_cut_67 (fun H locs hP hD hS => ?_)
          have hP : va_P (dC, dI) vwCl [(m0, .inr (3, [.ref mt, .ref mi, .ref mk, .ref mf, .ref ml, .int (iI ((tc : Int))), .int (iI ((n : Int))), .int (iI (((0 : Nat) : Int))), .int (iI ((ks1 : Int))), .int (iI (ft1)), .int (iI (pa1))])), (mi, .inl (cB, 65536, .inl (f))), (mk, .inl (cB, 65536, .inl (kf1))), (mf, .inl (cI, 1025, .inl (fun k => iI (fa1 k)))), (ml, .inl (cI, 1025, .inl (fun k => iI (la1 k))))] H := hP
          have hD : va_D A [(m0, .inr (3, [.ref mt, .ref mi, .ref mk, .ref mf, .ref ml, .int (iI ((tc : Int))), .int (iI ((n : Int))), .int (iI (((0 : Nat) : Int))), .int (iI ((ks1 : Int))), .int (iI (ft1)), .int (iI (pa1))])), (mi, .inl (cB, 65536, .inl (f))), (mk, .inl (cB, 65536, .inl (kf1))), (mf, .inl (cI, 1025, .inl (fun k => iI (fa1 k)))), (ml, .inl (cI, 1025, .inl (fun k => iI (la1 k))))] := hD
          refine lv_aload_n hx hb dX3_cut_70 rfl (lv_at hl 1 rfl) ?_
          refine va_get (D := (dC, dI)) (ci := 3) (v := .int (iI (ft1))) (C := "RequestCutterModel") (T := TX3) (N := 11) hx hb hts (fun w h => List.mem_cons_of_mem _ (inX3 w h)) hown hK hP 0 rfl rfl 9 (by decide) (hts _ (List.mem_cons_of_mem _ tw_275)) (fun _ h9 => h9) rfl dX3_cut_71 ?_
          refine lx_if_le (a := ft1) (tgt := 82) hx hb dX3_cut_74 (by decide) (by omega) (fun cq11 => ?_) (fun cq11 => ?_)
          · refine lv_iconst (v := iI (-1)) hx hb dX3_cut_82 rfl ?_
            have eV : V.1 = -1 := by omega
            exact W.iret (v := iI (-1)) hx hb hr (fun t ht hW => ⟨⟨iI (-1), (n, f, ft1, pa1, 0, ks1, kf1, fa1, la1), rfl, ⟨by rw [if_pos (by omega), eV], hft1, hfit, hkf1, fun _ => ⟨rfl, rfl, rfl⟩, fun q => by omega⟩, by rw [ht]; exact hP, va_K.moved hW.alike hK, hD⟩, hS.F ht⟩) hS.2.2 dX3_cut_83
          · refine lv_bipush (v := iI (-2)) hx hb dX3_cut_77 (by decide) ?_
            refine lv_goto (tgt := 83) hx hb dX3_cut_79 (by decide) ?_
            have eV : V.1 = -2 := by omega
            exact W.iret (v := iI (-2)) hx hb hr (fun t ht hW => ⟨⟨iI (-2), (n, f, ft1, pa1, 0, ks1, kf1, fa1, la1), rfl, ⟨by rw [if_pos (by omega), eV], hft1, hfit, hkf1, fun _ => ⟨rfl, rfl, rfl⟩, fun q => by omega⟩, by rw [ht]; exact hP, va_K.moved hW.alike hK, hD⟩, hS.F ht⟩) hS.2.2 dX3_cut_83
      · refine lv_goto (tgt := 55) hx hb dX3_cut_45 (by decide) ?_
        refine lv_iconst (v := iI (1)) hx hb dX3_cut_55 rfl ?_
        refine lv_goto (tgt := 60) hx hb dX3_cut_56 (by decide) ?_
        refine lv_istore_n (lv' := [(1, .int (iI (1))), (0, .ref m0)]) hx hb dX3_cut_60 rfl hl (by decide) rfl (fun ls hl => ?_)
        refine lv_iload_n hx hb dX3_cut_61 rfl (lv_at hl 0 rfl) ?_
        refine lx_if_ne (a := 1) (tgt := 84) hx hb dX3_cut_62 (by decide) (by omega) (fun cq12 => ?_) (fun cq12 => ?_)
        · refine lv_aload_n hx hb dX3_cut_84 rfl (lv_at hl 1 rfl) ?_
          refine lv_aload_n hx hb dX3_cut_85 rfl (lv_at hl 1 rfl) ?_
          refine va_get (D := (dC, dI)) (ci := 3) (v := .int (iI (pa1))) (C := "RequestCutterModel") (T := TX3) (N := 11) hx hb hts (fun w h => List.mem_cons_of_mem _ (inX3 w h)) hown hK hP 0 rfl rfl 10 (by decide) (hts _ (List.mem_cons_of_mem _ tw_276)) (fun _ h9 => h9) rfl dX3_cut_86 ?_
          obtain ⟨hpa1, hmr1, hw1, hks1⟩ := hx1 (by omega)
          obtain ⟨x, hVx⟩ : ∃ x : Nat, V.1 = (x : Int) := ⟨V.1.toNat, by omega⟩
          have hxt : V.1.toNat = x := by omega
          refine lx_top (x2 := iI (x : Int)) (congrArg iI (by omega)) ?_
          refine vx_Vv (As := [.int (iI ((x : Int)))]) (rest := []) (wr := [(mk, .inl (cB, 65536, .inl (kf1))), (mf, .inl (cI, 1025, .inl (fun k => iI (fa1 k)))), (ml, .inl (cI, 1025, .inl (fun k => iI (la1 k))))]) (ci := 3) (q0 := 0) [0, 1] [2, 3, 4] ⟨hx, hb, hml, hown, hts⟩ (c_X3_go l dC dI cB cI _ m0 mt mi mk mf ml tc n w1 ks1 ft1 pa1 f hn hfit x (by omega)) (cwV 1 hts (gd_V tw_320 tw_322 tw_11 tw_22 tw_323) rfl rfl rfl (by decide +kernel) ⟨Nat.le_of_ble_eq_true rfl, Nat.le_of_ble_eq_true rfl⟩) hK hP hD hS hA rfl rfl rfl rfl (by decide) rfl rfl rfl rfl hl.1 rfl (Nat.le_of_ble_eq_true rfl) dX3_cut_89 ⟨Nat.zero_le _, Nat.zero_le _⟩ (fun u H locs hw hP hD hS => ?_)
          obtain ⟨g, rfl⟩ : ∃ z, z = u := ⟨_, rfl⟩
          try dsimp only at hw hP hD
          obtain ⟨hg, hg1⟩ := hw
          have hP : va_P (dC, dI) vwCl [(m0, .inr (3, [.ref mt, .ref mi, .ref mk, .ref mf, .ref ml, .int (iI ((tc : Int))), .int (iI (((n - x : Nat) : Int))), .int (iI ((w1 : Int))), .int (iI ((ks1 : Int))), .int (iI (ft1)), .int (iI (pa1))])), (mi, .inl (cB, 65536, .inl (g))), (mk, .inl (cB, 65536, .inl (kf1))), (mf, .inl (cI, 1025, .inl (fun k => iI (fa1 k)))), (ml, .inl (cI, 1025, .inl (fun k => iI (la1 k))))] H := hP.sub [3, 4, 0, 1, 2] rfl
          have hD : va_D A [(m0, .inr (3, [.ref mt, .ref mi, .ref mk, .ref mf, .ref ml, .int (iI ((tc : Int))), .int (iI (((n - x : Nat) : Int))), .int (iI ((w1 : Int))), .int (iI ((ks1 : Int))), .int (iI (ft1)), .int (iI (pa1))])), (mi, .inl (cB, 65536, .inl (g))), (mk, .inl (cB, 65536, .inl (kf1))), (mf, .inl (cI, 1025, .inl (fun k => iI (fa1 k)))), (ml, .inl (cI, 1025, .inl (fun k => iI (la1 k))))] := hD.sub [3, 4, 0, 1, 2] (by decide) rfl
          refine lv_aload_n hx hb dX3_cut_92 rfl (lv_at hl 1 rfl) ?_
          refine va_get (D := (dC, dI)) (ci := 3) (v := .int (iI ((w1 : Int)))) (C := "RequestCutterModel") (T := TX3) (N := 11) hx hb hts (fun w h => List.mem_cons_of_mem _ (inX3 w h)) hown hK hP 0 rfl rfl 7 (by decide) (hts _ (List.mem_cons_of_mem _ tw_273)) (fun _ h9 => h9) rfl dX3_cut_93 ?_
          exact W.iret (v := iI ((w1 : Int))) hx hb hr (fun t ht hW => ⟨⟨iI ((w1 : Int)), (n - x, g, ft1, pa1, w1, ks1, kf1, fa1, la1), rfl, ⟨by rw [if_neg (by omega), hmr1.1], hft1, hg, hkf1, fun q => by omega, fun _ => by rw [hxt]; exact ⟨rfl, hg1, hmr1, hw1, hks1⟩⟩, by rw [ht]; exact hP, va_K.moved hW.alike hK, hD⟩, hS.F ht⟩) hS.2.2 dX3_cut_96
        · exact absurd cq12 (by omega)
