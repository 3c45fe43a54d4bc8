set_option maxHeartbeats 4000000 in
set_option maxRecDepth 100000 in
/-- cutTold() -/
theorem c_X3_cutTold (l : Launch) (dC : Nat → ClassId) (dI : Nat → Nat → Nat) (cB cI : ClassId) (sz : Nat) (m0 mt mi mk mf ml tc n : Nat) (f kf : Nat → Int32) (fa la : Nat → Int) (hn0 : 0 < n) (hn : n ≤ 65536) (hfit : sb_Fit f) (hkf : sb_Fit kf) : Met l yX3_cutTold wX3_cutTold ({ frames := 2, cells := 0, slots := 0, locals := 52 }) (va_Pc [.ref m0] (vx_B (dC, dI) vwCl [(cB, .byte), (cI, .int)] [(m0, .inr (3, [.ref mt, .ref mi, .ref mk, .ref mf, .ref ml, .int (iI ((tc : Int))), .int (iI ((n : Int))), .int (iI (((0 : Nat) : Int))), .int (iI (((0 : Nat) : Int))), .int (iI (0)), .int (iI (0))])), (mi, .inl (cB, 65536, .inl (f))), (mk, .inl (cB, 65536, .inl (kf))), (mf, .inl (cI, 1025, .inl (fun k => iI (fa k)))), (ml, .inl (cI, 1025, .inl (fun k => iI (la k))))] sz)) (va_Qi (fun (r : Int32) (u : Int × Int × Nat × Nat × (Nat → Int32) × (Nat → Int) × (Nat → Int)) => r = iI (if 0 ≤ (zCount (bA f n) n).1 then 1 else 0) ∧ u.1 = (if (zCount (bA f n) n).1 = -2 then (zCount (bA f n) n).2.1 else 0) ∧ sb_Fit u.2.2.2.2.1 ∧ (0 ≤ (zCount (bA f n) n).1 → u.2.1 = (zCount (bA f n) n).1 ∧ mR f u.2.2.2.2.1 (zCount (bA f n) n).2.2 u.2.2.1 u.2.2.2.1 u.2.2.2.2.2.1 u.2.2.2.2.2.2 ∧ u.2.2.1 ≤ 1024 ∧ (u.2.2.2.1 : Int) ≤ (zCount (bA f n) n).1)) (fun (u : Int × Int × Nat × Nat × (Nat → Int32) × (Nat → Int) × (Nat → Int)) => vx_E (dC, dI) vwCl [(cB, .byte), (cI, .int)] (va_A [(m0, .inr (3, [.ref mt, .ref mi, .ref mk, .ref mf, .ref ml, .int (iI ((tc : Int))), .int (iI ((n : Int))), .int (iI (((0 : Nat) : Int))), .int (iI (((0 : Nat) : Int))), .int (iI (0)), .int (iI (0))])), (mi, .inl (cB, 65536, .inl (f))), (mk, .inl (cB, 65536, .inl (kf))), (mf, .inl (cI, 1025, .inl (fun k => iI (fa k)))), (ml, .inl (cI, 1025, .inl (fun k => iI (la k))))] sz) [(m0, .inr (3, [.ref mt, .ref mi, .ref mk, .ref mf, .ref ml, .int (iI ((tc : Int))), .int (iI ((n : Int))), .int (iI ((u.2.2.1 : Int))), .int (iI ((u.2.2.2.1 : Int))), .int (iI (u.1)), .int (iI (u.2.1))])), (mi, .inl (cB, 65536, .inl (f))), (mk, .inl (cB, 65536, .inl (u.2.2.2.2.1))), (mf, .inl (cI, 1025, .inl (fun k => iI (u.2.2.2.2.2.1 k)))), (ml, .inl (cI, 1025, .inl (fun k => iI (u.2.2.2.2.2.2 k))))]) (va_A [(m0, .inr (3, [.ref mt, .ref mi, .ref mk, .ref mf, .ref ml, .int (iI ((tc : Int))), .int (iI ((n : Int))), .int (iI (((0 : Nat) : Int))), .int (iI (((0 : Nat) : Int))), .int (iI (0)), .int (iI (0))])), (mi, .inl (cB, 65536, .inl (f))), (mk, .inl (cB, 65536, .inl (kf))), (mf, .inl (cI, 1025, .inl (fun k => iI (fa k)))), (ml, .inl (cI, 1025, .inl (fun k => iI (la k))))] sz)) (0) (0) (va_A [(m0, .inr (3, [.ref mt, .ref mi, .ref mk, .ref mf, .ref ml, .int (iI ((tc : Int))), .int (iI ((n : Int))), .int (iI (((0 : Nat) : Int))), .int (iI (((0 : Nat) : Int))), .int (iI (0)), .int (iI (0))])), (mi, .inl (cB, 65536, .inl (f))), (mk, .inl (cB, 65536, .inl (kf))), (mf, .inl (cI, 1025, .inl (fun k => iI (fa k)))), (ml, .inl (cI, 1025, .inl (fun k => iI (la k))))] sz) := by
  refine Met.ofW (cc := cX3_cutTold) (maxL := 4) (ret := (some .boolean)) (by decide) rfl ?_
  intro p e s m args below meth c s₁ B hml hv
  obtain ⟨rfl, hsz, hP, hK, hD0⟩ := hv
  have hx := B.exec
  have hb := B.bytes
  have hr := B.returns
  have hts := atoms_spec (ws := wX3_cutTold) B.pre
  have hown : s.vm.findClass "RequestCutterModel" = some m.cls := findClass_of_methodNamed B.named
  have hlocks := B.notSynchronized
  subst hsz
  have hD := hD0.self (sz := s.heap.size)
  generalize hAe : va_A [(m0, .inr (3, [.ref mt, .ref mi, .ref mk, .ref mf, .ref ml, .int (iI ((tc : Int))), .int (iI ((n : Int))), .int (iI (((0 : Nat) : Int))), .int (iI (((0 : Nat) : Int))), .int (iI (0)), .int (iI (0))])), (mi, .inl (cB, 65536, .inl (f))), (mk, .inl (cB, 65536, .inl (kf))), (mf, .inl (cI, 1025, .inl (fun k => iI (fa k)))), (ml, .inl (cI, 1025, .inl (fun k => iI (la k))))] s.heap.size = A at hD ⊢
  have hA : ∀ q : Nat, s.heap.size ≤ q → A q := fun q h => by rw [← hAe]; exact Or.inr h
  have hS : va_S A s.heap s.heap [] := va_S.rf
  have hP : va_P (dC, dI) vwCl [(m0, .inr (3, [.ref mt, .ref mi, .ref mk, .ref mf, .ref ml, .int (iI ((tc : Int))), .int (iI ((n : Int))), .int (iI (((0 : Nat) : Int))), .int (iI (((0 : Nat) : Int))), .int (iI (0)), .int (iI (0))])), (mi, .inl (cB, 65536, .inl (f))), (mk, .inl (cB, 65536, .inl (kf))), (mf, .inl (cI, 1025, .inl (fun k => iI (fa k)))), (ml, .inl (cI, 1025, .inl (fun k => iI (la k))))] s.heap := hP
  have hl := lv_entry ([.ref m0]) (n := 4) (Nat.le_of_ble_eq_true rfl)
  rw [lg_entry_eq]
  generalize (lg_sl ([.ref m0]) ++ List.replicate (4 - (lg_sl ([.ref m0])).length) Slot.unset).toArray = ls at hl ⊢
  have hl : lv_has ls 4 [(0, .ref m0)] := hl
  refine lv_aload_n hx hb dX3_cutTold_0 rfl (lv_at hl 0 rfl) ?_
  obtain ⟨Lm, hLm⟩ : ∃ Lm, Lm = mL (bA f n) n 0 := ⟨_, rfl⟩
  have gM := mL_rg f n 0 (by omega)
  rw [← hLm] at gM
  obtain ⟨L, hL⟩ : ∃ L, L = zLine (bA f n) n 0 (-999999) 1024 := ⟨_, rfl⟩
  have gR := mL_rel (bA f n) n 0 (-999999) 1024 (by omega)
  rw [← hLm, ← hL] at gR
  have gLr := zLine_rg f n 0 (-999999) 1024
  rw [← hL] at gLr
  refine vx_Vi (As := []) (rest := []) (wr := [(mk, .inl (cB, 65536, .inl (kf))), (mf, .inl (cI, 1025, .inl (fun k => iI (fa k)))), (ml, .inl (cI, 1025, .inl (fun k => iI (la k))))]) (ci := 3) (q0 := 0) [0, 1] [2, 3, 4] ⟨hx, hb, hml, hown, hts⟩ (c_X3_line l dC dI cB cI _ m0 mt mi mk mf ml tc n 0 0 0 0 f hn hfit (by omega)) (cwV 0 hts (gd_V tw_332 tw_334 tw_13 tw_22 tw_335) rfl rfl rfl (by decide +kernel) ⟨Nat.le_of_ble_eq_true rfl, Nat.le_of_ble_eq_true rfl⟩) hK hP hD hS hA rfl rfl rfl rfl (by decide) rfl rfl rfl rfl hl.1 rfl (Nat.le_of_ble_eq_true rfl) dX3_cutTold_1 ⟨Nat.zero_le _, Nat.zero_le _⟩ (fun r u H locs hw hP hD hS => ?_)
  obtain ⟨q1, rfl⟩ : ∃ z, z = u := ⟨_, rfl⟩
  try dsimp only at hw hP hD
  rw [← hLm] at hw
  obtain ⟨rfl, hq1⟩ := hw
  have hP : va_P (dC, dI) vwCl [(m0, .inr (3, [.ref mt, .ref mi, .ref mk, .ref mf, .ref ml, .int (iI ((tc : Int))), .int (iI ((n : Int))), .int (iI (((0 : Nat) : Int))), .int (iI (((0 : Nat) : Int))), .int (iI (0)), .int (iI (q1))])), (mi, .inl (cB, 65536, .inl (f))), (mk, .inl (cB, 65536, .inl (kf))), (mf, .inl (cI, 1025, .inl (fun k => iI (fa k)))), (ml, .inl (cI, 1025, .inl (fun k => iI (la k))))] H := hP.sub [3, 4, 0, 1, 2] rfl
  have hD : va_D A [(m0, .inr (3, [.ref mt, .ref mi, .ref mk, .ref mf, .ref ml, .int (iI ((tc : Int))), .int (iI ((n : Int))), .int (iI (((0 : Nat) : Int))), .int (iI (((0 : Nat) : Int))), .int (iI (0)), .int (iI (q1))])), (mi, .inl (cB, 65536, .inl (f))), (mk, .inl (cB, 65536, .inl (kf))), (mf, .inl (cI, 1025, .inl (fun k => iI (fa k)))), (ml, .inl (cI, 1025, .inl (fun k => iI (la k))))] := hD.sub [3, 4, 0, 1, 2] (by decide) rfl
  subst hq1
  have hP : va_P (dC, dI) vwCl [(m0, .inr (3, [.ref mt, .ref mi, .ref mk, .ref mf, .ref ml, .int (iI ((tc : Int))), .int (iI ((n : Int))), .int (iI (((0 : Nat) : Int))), .int (iI (((0 : Nat) : Int))), .int (iI (0)), .int (iI (Lm.2))])), (mi, .inl (cB, 65536, .inl (f))), (mk, .inl (cB, 65536, .inl (kf))), (mf, .inl (cI, 1025, .inl (fun k => iI (fa k)))), (ml, .inl (cI, 1025, .inl (fun k => iI (la k))))] H := hP
  refine lv_istore_n (lv' := [(1, .int (iI (Lm.1))), (0, .ref m0)]) hx hb dX3_cutTold_4 rfl hl (by decide) rfl (fun ls hl => ?_)
  refine lv_aload_n hx hb dX3_cutTold_5 rfl (lv_at hl 1 rfl) ?_
  refine lv_iload_n hx hb dX3_cutTold_6 rfl (lv_at hl 0 rfl) ?_
  refine lx_ldc (z := -1000001) (v := -1000001) hx hb hown (hts _ (List.mem_cons_of_mem _ tw_336)) (by decide) dX3_cutTold_7 ?_
  refine lx_icmp_eq (a := Lm.1) (b := -1000001) (tgt := 19) hx hb dX3_cutTold_9 (by decide) (by omega) (by omega) (fun cq1 => ?_) (fun cq1 => ?_)
  · refine lv_iconst (v := iI (1)) hx hb dX3_cutTold_19 rfl ?_
    refine lv_goto (tgt := 24) hx hb dX3_cutTold_20 (by decide) ?_
    refine va_put (D := (dC, dI)) (ci := 3) (v := .int (iI (1))) (ty := .int) (C := "RequestCutterModel") (T := TX3) (N := 11) hx hb hts (fun w h => List.mem_cons_of_mem _ (inX3 w h)) tyX3 tyX3_ok nmX3 hown hK hP hD hS 0 rfl rfl 9 (by decide) (hts _ (List.mem_cons_of_mem _ tw_275)) (fun _ h9 => h9) rfl (by decide +kernel) rfl rfl (Nat.le_of_ble_eq_true rfl) dX3_cutTold_24 (fun H locs hP hD hS => ?_)
    have hP : va_P (dC, dI) vwCl [(m0, .inr (3, [.ref mt, .ref mi, .ref mk, .ref mf, .ref ml, .int (iI ((tc : Int))), .int (iI ((n : Int))), .int (iI (((0 : Nat) : Int))), .int (iI (((0 : Nat) : Int))), .int (iI (1)), .int (iI (Lm.2))])), (mi, .inl (cB, 65536, .inl (f))), (mk, .inl (cB, 65536, .inl (kf))), (mf, .inl (cI, 1025, .inl (fun k => iI (fa k)))), (ml, .inl (cI, 1025, .inl (fun k => iI (la k))))] H := hP
    have hD : va_D A [(m0, .inr (3, [.ref mt, .ref mi, .ref mk, .ref mf, .ref ml, .int (iI ((tc : Int))), .int (iI ((n : Int))), .int (iI (((0 : Nat) : Int))), .int (iI (((0 : Nat) : Int))), .int (iI (1)), .int (iI (Lm.2))])), (mi, .inl (cB, 65536, .inl (f))), (mk, .inl (cB, 65536, .inl (kf))), (mf, .inl (cI, 1025, .inl (fun k => iI (fa k)))), (ml, .inl (cI, 1025, .inl (fun k => iI (la k))))] := hD
    refine lv_iload_n hx hb dX3_cutTold_27 rfl (lv_at hl 0 rfl) ?_
    refine lx_ldc (z := -1000000) (v := -1000000) hx hb hown (hts _ (List.mem_cons_of_mem _ tw_337)) (by decide) dX3_cutTold_28 ?_
    refine lx_icmp_eq (a := Lm.1) (b := -1000000) (tgt := 44) hx hb dX3_cutTold_30 (by decide) (by omega) (by omega) (fun cq2 => ?_) (fun cq2 => ?_)
    · exact absurd cq2 (by omega)
    · refine lv_aload_n hx hb dX3_cutTold_33 rfl (lv_at hl 1 rfl) ?_
      refine va_get (D := (dC, dI)) (ci := 3) (v := .int (iI (1))) (C := "RequestCutterModel") (T := TX3) (N := 11) hx hb hts (fun w h => List.mem_cons_of_mem _ (inX3 w h)) hown hK hP 0 rfl rfl 9 (by decide) (hts _ (List.mem_cons_of_mem _ tw_275)) (fun _ h9 => h9) rfl dX3_cutTold_34 ?_
      refine lx_if_ne (a := 1) (tgt := 44) hx hb dX3_cutTold_37 (by decide) (by omega) (fun cq3 => ?_) (fun cq3 => ?_)
      · refine lv_iconst (v := iI (0)) hx hb dX3_cutTold_44 rfl ?_
        refine lv_istore_n (lv' := [(2, .int (iI (0))), (1, .int (iI (Lm.1))), (0, .ref m0)]) hx hb dX3_cutTold_45 rfl hl (by decide) rfl (fun ls hl => ?_)
        refine lv_iconst (v := iI (0)) hx hb dX3_cutTold_46 rfl ?_
        refine lv_istore_n (lv' := [(3, .int (iI (0))), (2, .int (iI (0))), (1, .int (iI (Lm.1))), (0, .ref m0)]) hx hb dX3_cutTold_47 rfl hl (by decide) rfl (fun ls hl => ?_)
        obtain ⟨ft0, hft0⟩ : ∃ t : Int, t = (if L.1 = -2 then 1 else 0) := ⟨_, rfl⟩
        have hz0 : zWords (bA f n) n Lm.1.toNat L.1 ft0 [] = (zCount (bA f n) n) := by
          by_cases q : L.1 < 0
          · rw [zWords_neg q, zCount_neg hL q, hft0]
          · rw [zCount_pos hL q, hft0, show L.2 = Lm.1 by omega, if_neg (by omega)]
        refine (?_ : ∀ (k : Nat) (j : Int) (mo : Int) (pl : Int) (ft : Int) (pa : Int) (w : Nat) (ks : Nat) (kf : Nat → Int32) (fa : Nat → Int) (la : Nat → Int) (ftz : Int) (ws : List (Int × Int)) (H : Heap) (locs : List Loc) (ls : Array Slot), (Lm.1 - j ≤ k ∧ (0 < k → j + k = Lm.1)) → (0 ≤ j ∧ (j ≤ Lm.1 ∨ j = 0)) → zWords (bA f n) n k pl ftz ws = (zCount (bA f n) n) → ((mo = 1 ∧ 0 ≤ pl ∧ pl ≤ n ∧ pa = pl ∧ ft = 0 ∧ (w : Int) = j ∧ (ks : Int) ≤ pl ∧ mR f kf ws w ks fa la ∧ Lm.1 ≤ 1024) ∨ (mo = 0 ∧ (pl = -1 ∨ pl = -2) ∧ ft = (if pl = -2 then ftz else 0))) → sb_Fit kf → va_P (dC, dI) vwCl [(m0, .inr (3, [.ref mt, .ref mi, .ref mk, .ref mf, .ref ml, .int (iI ((tc : Int))), .int (iI ((n : Int))), .int (iI ((w : Int))), .int (iI ((ks : Int))), .int (iI (ft)), .int (iI (pa))])), (mi, .inl (cB, 65536, .inl (f))), (mk, .inl (cB, 65536, .inl (kf))), (mf, .inl (cI, 1025, .inl (fun k => iI (fa k)))), (ml, .inl (cI, 1025, .inl (fun k => iI (la k))))] H → va_D A [(m0, .inr (3, [.ref mt, .ref mi, .ref mk, .ref mf, .ref ml, .int (iI ((tc : Int))), .int (iI ((n : Int))), .int (iI ((w : Int))), .int (iI ((ks : Int))), .int (iI (ft)), .int (iI (pa))])), (mi, .inl (cB, 65536, .inl (f))), (mk, .inl (cB, 65536, .inl (kf))), (mf, .inl (cI, 1025, .inl (fun k => iI (fa k)))), (ml, .inl (cI, 1025, .inl (fun k => iI (la k))))] → va_S A s.heap H locs → lv_has ls 4 [(3, .int (iI (j))), (2, .int (iI (mo))), (1, .int (iI (Lm.1))), (0, .ref m0)] → W p l e _ s m _ below meth c H locs _ _ _ (F0 m 48 ls [])) (Lm.1.toNat) (0) (0) (L.1) (1) (Lm.2) (0) (0) (kf) (fa) (la) (ft0) ([]) _ _ ls (by omega) (by omega) (hz0) (Or.inr ⟨rfl, by omega, by rw [hft0]; rw [if_pos (by omega), if_pos (by omega)]⟩) (hkf) (hP.sub [0, 1, 2, 3, 4] rfl) (hD.sub [0, 1, 2, 3, 4] (by decide) rfl) hS (lv_sub hl [0, 1, 2, 3] rfl)
        intro k
        induction k with
        | zero =>
          intro j mo pl ft pa w ks kf fa la ftz ws H locs ls hk hj hz hmo hkf hP hD hS hl
          refine lv_iload_n hx hb dX3_cutTold_48 rfl (lv_at hl 0 rfl) ?_
          refine lv_iload_n hx hb dX3_cutTold_49 rfl (lv_at hl 2 rfl) ?_
          refine lx_icmp_ge (a := j) (b := Lm.1) (tgt := 68) hx hb dX3_cutTold_50 (by decide) (by omega) (by omega) (fun cq4 => ?_) (fun cq4 => ?_)
          · refine lv_iload_n hx hb dX3_cutTold_68 rfl (lv_at hl 1 rfl) ?_
            have hZ : (zCount (bA f n) n) = (pl, ftz, ws) := by rw [← hz]; first | rfl | exact zWords_neg (by omega)
            exact W.zret (v := iI (mo)) hx hb hr (nw_01 (by omega)) (fun t ht hW => ⟨⟨iI (mo), (ft, pa, w, ks, kf, fa, la), rfl, ⟨by rw [hZ]; show iI mo = iI (if 0 ≤ pl then 1 else 0); (rcases hmo with ⟨e, q, _⟩ | ⟨e, q, _⟩); rw [e, if_pos q]; rw [e, if_neg (by omega)], by rw [hZ]; show ft = (if pl = -2 then ftz else 0); (rcases hmo with ⟨e, q, _, _, q2, _⟩ | ⟨e, q, q2⟩); rw [q2, if_neg (by omega)]; exact q2, hkf, fun q => by rw [hZ] at q ⊢; have q : 0 ≤ pl := q; obtain ⟨hm1, hpl0, hpl1, hpp, hf0, hwj, hksp, hmr, hLm1⟩ := Or.resolve_right hmo (fun z => by omega); exact ⟨hpp, hmr, by show w ≤ 1024; omega, hksp⟩⟩, by rw [ht]; exact hP, va_K.moved hW.alike hK, hD⟩, hS.F ht⟩) hS.2.2 dX3_cutTold_69
          · exact absurd cq4 (by omega)
        | succ k ih =>
          intro j mo pl ft pa w ks kf fa la ftz ws H locs ls hk hj hz hmo hkf hP hD hS hl
          refine lv_iload_n hx hb dX3_cutTold_48 rfl (lv_at hl 0 rfl) ?_
          refine lv_iload_n hx hb dX3_cutTold_49 rfl (lv_at hl 2 rfl) ?_
          refine lx_icmp_ge (a := j) (b := Lm.1) (tgt := 68) hx hb dX3_cutTold_50 (by decide) (by omega) (by omega) (fun cq5 => ?_) (fun cq5 => ?_)
          · exact absurd cq5 (by omega)
          · refine lv_iload_n hx hb dX3_cutTold_53 rfl (lv_at hl 1 rfl) ?_
            refine lx_if_eq (a := mo) (tgt := 68) hx hb dX3_cutTold_54 (by decide) (by omega) (fun cq6 => ?_) (fun cq6 => ?_)
            · refine lv_iload_n hx hb dX3_cutTold_68 rfl (lv_at hl 1 rfl) ?_
              have hZ : (zCount (bA f n) n) = (pl, ftz, ws) := by rw [← hz]; first | rfl | exact zWords_neg (by omega)
              exact W.zret (v := iI (mo)) hx hb hr (nw_01 (by omega)) (fun t ht hW => ⟨⟨iI (mo), (ft, pa, w, ks, kf, fa, la), rfl, ⟨by rw [hZ]; show iI mo = iI (if 0 ≤ pl then 1 else 0); (rcases hmo with ⟨e, q, _⟩ | ⟨e, q, _⟩); rw [e, if_pos q]; rw [e, if_neg (by omega)], by rw [hZ]; show ft = (if pl = -2 then ftz else 0); (rcases hmo with ⟨e, q, _, _, q2, _⟩ | ⟨e, q, q2⟩); rw [q2, if_neg (by omega)]; exact q2, hkf, fun q => by rw [hZ] at q ⊢; have q : 0 ≤ pl := q; obtain ⟨hm1, hpl0, hpl1, hpp, hf0, hwj, hksp, hmr, hLm1⟩ := Or.resolve_right hmo (fun z => by omega); exact ⟨hpp, hmr, by show w ≤ 1024; omega, hksp⟩⟩, by rw [ht]; exact hP, va_K.moved hW.alike hK, hD⟩, hS.F ht⟩) hS.2.2 dX3_cutTold_69
            · refine lv_aload_n hx hb dX3_cutTold_57 rfl (lv_at hl 3 rfl) ?_
              obtain ⟨hm1, hpl0, hpl1, hpp, hf0, hwj, hksp, hmr, hLm1⟩ := Or.resolve_right hmo (fun q => by omega)
              subst hpp
              obtain ⟨V, hV⟩ : ∃ V, V = zWord (bA f n) n pa := ⟨_, rfl⟩
              have gW := zWord_rg f n pa
              rw [← hV] at gW
              refine vx_Vi (As := []) (rest := []) (wr := []) (ci := 3) (q0 := 0) [0, 1, 2, 3, 4] [] ⟨hx, hb, hml, hown, hts⟩ (c_X3_told l dC dI cB cI _ m0 mt mi mk mf ml tc n w ks ft pa f kf fa la hn hfit hkf (by omega) (by omega) (by omega)) (cwV 0 hts (gd_V tw_338 tw_340 tw_14 tw_22 tw_341) rfl rfl rfl (by decide +kernel) ⟨Nat.le_of_ble_eq_true rfl, Nat.le_of_ble_eq_true rfl⟩) hK hP hD hS hA rfl rfl rfl rfl (by decide) rfl rfl rfl rfl hl.1 rfl (Nat.le_of_ble_eq_true rfl) dX3_cutTold_58 ⟨Nat.zero_le _, Nat.zero_le _⟩ (fun r u H locs hw hP hD hS => ?_)
              obtain ⟨ft1, pa1, w1, ks1, kf1, fa1, la1⟩ := u
              try dsimp only at hw hP hD
              rw [← hV] at hw
              obtain ⟨hr1, hft1, hkf1, hx1⟩ := hw
              have hP : va_P (dC, dI) vwCl [(m0, .inr (3, [.ref mt, .ref mi, .ref mk, .ref mf, .ref ml, .int (iI ((tc : Int))), .int (iI ((n : Int))), .int (iI ((w1 : Int))), .int (iI ((ks1 : Int))), .int (iI (ft1)), .int (iI (pa1))])), (mi, .inl (cB, 65536, .inl (f))), (mk, .inl (cB, 65536, .inl (kf1))), (mf, .inl (cI, 1025, .inl (fun k => iI (fa1 k)))), (ml, .inl (cI, 1025, .inl (fun k => iI (la1 k))))] H := hP.sub [0, 1, 2, 3, 4] rfl
              have hD : va_D A [(m0, .inr (3, [.ref mt, .ref mi, .ref mk, .ref mf, .ref ml, .int (iI ((tc : Int))), .int (iI ((n : Int))), .int (iI ((w1 : Int))), .int (iI ((ks1 : Int))), .int (iI (ft1)), .int (iI (pa1))])), (mi, .inl (cB, 65536, .inl (f))), (mk, .inl (cB, 65536, .inl (kf1))), (mf, .inl (cI, 1025, .inl (fun k => iI (fa1 k)))), (ml, .inl (cI, 1025, .inl (fun k => iI (la1 k))))] := hD.sub [0, 1, 2, 3, 4] (by decide) rfl
              obtain ⟨b1, hb1, rfl⟩ := bo_of hr1
              refine lv_istore_n (lv' := [(2, .int (iI (b1))), (3, .int (iI (j))), (1, .int (iI (Lm.1))), (0, .ref m0)]) hx hb dX3_cutTold_61 rfl hl (by decide) rfl (fun ls hl => ?_)
              refine lv_iinc (v := iI (j + 1)) (lv' := [(3, .int (iI (j + 1))), (2, .int (iI (b1))), (1, .int (iI (Lm.1))), (0, .ref m0)]) hx hb dX3_cutTold_62 hl (k := 1) rfl (iI_add _ _) (by decide) rfl (fun ls hl => ?_)
              refine lv_goto (tgt := 48) hx hb dX3_cutTold_65 (by decide) ?_
              have hmo2 : ((b1 = 1 ∧ 0 ≤ V.1 ∧ V.1 ≤ n ∧ pa1 = V.1 ∧ ft1 = 0 ∧ (w1 : Int) = (j + 1) ∧ (ks1 : Int) ≤ V.1 ∧ mR f kf1 (ws ++ [V.2.2]) w1 ks1 fa1 la1 ∧ Lm.1 ≤ 1024) ∨ (b1 = 0 ∧ (V.1 = -1 ∨ V.1 = -2) ∧ ft1 = (if V.1 = -2 then V.2.1 else 0))) := by
                rcases hb1 with ⟨q, e⟩ | ⟨q, e⟩
                · obtain ⟨hp1, hw1, x, z, hxz, hks1, hfa1, hla1, hka, hkb⟩ := hx1 q
                  have e1 : V.2.2.1 = (x : Int) := by rw [hxz]
                  have e2 : V.2.2.2 = (z : Int) := by rw [hxz]
                  exact Or.inl ⟨e, q, by omega, hp1, by rw [hft1]; exact if_neg (by omega), by omega, by omega, by rw [hw1, hks1, hfa1, hla1, hxz]; exact mR_add hmr hka hkb, hLm1⟩
                · exact Or.inr ⟨e, by omega, hft1⟩
              clear hx1 hb1 hft1 hmo
              exact ih (j + 1) (b1) (V.1) (ft1) (pa1) (w1) (ks1) (kf1) (fa1) (la1) (V.2.1) (ws ++ [V.2.2]) _ _ ls (by omega) (by omega) (by rw [hV, ← zWords_suc (by omega)]; exact hz) (hmo2) (hkf1) (hP.sub [0, 1, 2, 3, 4] rfl) (hD.sub [0, 1, 2, 3, 4] (by decide) rfl) hS (lv_sub hl [0, 1, 2, 3] rfl)
      · exact absurd cq3 (by omega)
  · refine lv_iload_n hx hb dX3_cutTold_12 rfl (lv_at hl 0 rfl) ?_
    refine lv_sipush (v := iI (1024)) hx hb dX3_cutTold_13 (by decide) ?_
    refine lx_icmp_le (a := Lm.1) (b := 1024) (tgt := 23) hx hb dX3_cutTold_16 (by decide) (by omega) (by omega) (fun cq7 => ?_) (fun cq7 => ?_)
    · refine lv_iconst (v := iI (0)) hx hb dX3_cutTold_23 rfl ?_
      refine va_put (D := (dC, dI)) (ci := 3) (v := .int (iI (0))) (ty := .int) (C := "RequestCutterModel") (T := TX3) (N := 11) hx hb hts (fun w h => List.mem_cons_of_mem _ (inX3 w h)) tyX3 tyX3_ok nmX3 hown hK hP hD hS 0 rfl rfl 9 (by decide) (hts _ (List.mem_cons_of_mem _ tw_275)) (fun _ h9 => h9) rfl (by decide +kernel) rfl rfl (Nat.le_of_ble_eq_true rfl) dX3_cutTold_24 (fun H locs hP hD hS => ?_)
      have hP : va_P (dC, dI) vwCl [(m0, .inr (3, [.ref mt, .ref mi, .ref mk, .ref mf, .ref ml, .int (iI ((tc : Int))), .int (iI ((n : Int))), .int (iI (((0 : Nat) : Int))), .int (iI (((0 : Nat) : Int))), .int (iI (0)), .int (iI (Lm.2))])), (mi, .inl (cB, 65536, .inl (f))), (mk, .inl (cB, 65536, .inl (kf))), (mf, .inl (cI, 1025, .inl (fun k => iI (fa k)))), (ml, .inl (cI, 1025, .inl (fun k => iI (la k))))] H := hP
      have hD : va_D A [(m0, .inr (3, [.ref mt, .ref mi, .ref mk, .ref mf, .ref ml, .int (iI ((tc : Int))), .int (iI ((n : Int))), .int (iI (((0 : Nat) : Int))), .int (iI (((0 : Nat) : Int))), .int (iI (0)), .int (iI (Lm.2))])), (mi, .inl (cB, 65536, .inl (f))), (mk, .inl (cB, 65536, .inl (kf))), (mf, .inl (cI, 1025, .inl (fun k => iI (fa k)))), (ml, .inl (cI, 1025, .inl (fun k => iI (la k))))] := hD
      refine lv_iload_n hx hb dX3_cutTold_27 rfl (lv_at hl 0 rfl) ?_
      refine lx_ldc (z := -1000000) (v := -1000000) hx hb hown (hts _ (List.mem_cons_of_mem _ tw_337)) (by decide) dX3_cutTold_28 ?_
      refine lx_icmp_eq (a := Lm.1) (b := -1000000) (tgt := 44) hx hb dX3_cutTold_30 (by decide) (by omega) (by omega) (fun cq8 => ?_) (fun cq8 => ?_)
      · refine lv_iconst (v := iI (0)) hx hb dX3_cutTold_44 rfl ?_
        refine lv_istore_n (lv' := [(2, .int (iI (0))), (1, .int (iI (Lm.1))), (0, .ref m0)]) hx hb dX3_cutTold_45 rfl hl (by decide) rfl (fun ls hl => ?_)
        refine lv_iconst (v := iI (0)) hx hb dX3_cutTold_46 rfl ?_
        refine lv_istore_n (lv' := [(3, .int (iI (0))), (2, .int (iI (0))), (1, .int (iI (Lm.1))), (0, .ref m0)]) hx hb dX3_cutTold_47 rfl hl (by decide) rfl (fun ls hl => ?_)
        obtain ⟨ft0, hft0⟩ : ∃ t : Int, t = (if L.1 = -2 then 1 else 0) := ⟨_, rfl⟩
        have hz0 : zWords (bA f n) n Lm.1.toNat L.1 ft0 [] = (zCount (bA f n) n) := by
          by_cases q : L.1 < 0
          · rw [zWords_neg q, zCount_neg hL q, hft0]
          · rw [zCount_pos hL q, hft0, show L.2 = Lm.1 by omega, if_neg (by omega)]
        refine (?_ : ∀ (k : Nat) (j : Int) (mo : Int) (pl : Int) (ft : Int) (pa : Int) (w : Nat) (ks : Nat) (kf : Nat → Int32) (fa : Nat → Int) (la : Nat → Int) (ftz : Int) (ws : List (Int × Int)) (H : Heap) (locs : List Loc) (ls : Array Slot), (Lm.1 - j ≤ k ∧ (0 < k → j + k = Lm.1)) → (0 ≤ j ∧ (j ≤ Lm.1 ∨ j = 0)) → zWords (bA f n) n k pl ftz ws = (zCount (bA f n) n) → ((mo = 1 ∧ 0 ≤ pl ∧ pl ≤ n ∧ pa = pl ∧ ft = 0 ∧ (w : Int) = j ∧ (ks : Int) ≤ pl ∧ mR f kf ws w ks fa la ∧ Lm.1 ≤ 1024) ∨ (mo = 0 ∧ (pl = -1 ∨ pl = -2) ∧ ft = (if pl = -2 then ftz else 0))) → sb_Fit kf → va_P (dC, dI) vwCl [(m0, .inr (3, [.ref mt, .ref mi, .ref mk, .ref mf, .ref ml, .int (iI ((tc : Int))), .int (iI ((n : Int))), .int (iI ((w : Int))), .int (iI ((ks : Int))), .int (iI (ft)), .int (iI (pa))])), (mi, .inl (cB, 65536, .inl (f))), (mk, .inl (cB, 65536, .inl (kf))), (mf, .inl (cI, 1025, .inl (fun k => iI (fa k)))), (ml, .inl (cI, 1025, .inl (fun k => iI (la k))))] H → va_D A [(m0, .inr (3, [.ref mt, .ref mi, .ref mk, .ref mf, .ref ml, .int (iI ((tc : Int))), .int (iI ((n : Int))), .int (iI ((w : Int))), .int (iI ((ks : Int))), .int (iI (ft)), .int (iI (pa))])), (mi, .inl (cB, 65536, .inl (f))), (mk, .inl (cB, 65536, .inl (kf))), (mf, .inl (cI, 1025, .inl (fun k => iI (fa k)))), (ml, .inl (cI, 1025, .inl (fun k => iI (la k))))] → va_S A s.heap H locs → lv_has ls 4 [(3, .int (iI (j))), (2, .int (iI (mo))), (1, .int (iI (Lm.1))), (0, .ref m0)] → W p l e _ s m _ below meth c H locs _ _ _ (F0 m 48 ls [])) (Lm.1.toNat) (0) (0) (L.1) (0) (Lm.2) (0) (0) (kf) (fa) (la) (ft0) ([]) _ _ ls (by omega) (by omega) (hz0) (Or.inr ⟨rfl, by omega, by rw [hft0]; rw [if_neg (by omega)]⟩) (hkf) (hP.sub [0, 1, 2, 3, 4] rfl) (hD.sub [0, 1, 2, 3, 4] (by decide) rfl) hS (lv_sub hl [0, 1, 2, 3] rfl)
        intro k
        induction k with
        | zero =>
          intro j mo pl ft pa w ks kf fa la ftz ws H locs ls hk hj hz hmo hkf hP hD hS hl
          refine lv_iload_n hx hb dX3_cutTold_48 rfl (lv_at hl 0 rfl) ?_
          refine lv_iload_n hx hb dX3_cutTold_49 rfl (lv_at hl 2 rfl) ?_
          refine lx_icmp_ge (a := j) (b := Lm.1) (tgt := 68) hx hb dX3_cutTold_50 (by decide) (by omega) (by omega) (fun cq9 => ?_) (fun cq9 => ?_)
          · refine lv_iload_n hx hb dX3_cutTold_68 rfl (lv_at hl 1 rfl) ?_
            have hZ : (zCount (bA f n) n) = (pl, ftz, ws) := by rw [← hz]; first | rfl | exact zWords_neg (by omega)
            exact W.zret (v := iI (mo)) hx hb hr (nw_01 (by omega)) (fun t ht hW => ⟨⟨iI (mo), (ft, pa, w, ks, kf, fa, la), rfl, ⟨by rw [hZ]; show iI mo = iI (if 0 ≤ pl then 1 else 0); (rcases hmo with ⟨e, q, _⟩ | ⟨e, q, _⟩); rw [e, if_pos q]; rw [e, if_neg (by omega)], by rw [hZ]; show ft = (if pl = -2 then ftz else 0); (rcases hmo with ⟨e, q, _, _, q2, _⟩ | ⟨e, q, q2⟩); rw [q2, if_neg (by omega)]; exact q2, hkf, fun q => by rw [hZ] at q ⊢; have q : 0 ≤ pl := q; obtain ⟨hm1, hpl0, hpl1, hpp, hf0, hwj, hksp, hmr, hLm1⟩ := Or.resolve_right hmo (fun z => by omega); exact ⟨hpp, hmr, by show w ≤ 1024; omega, hksp⟩⟩, by rw [ht]; exact hP, va_K.moved hW.alike hK, hD⟩, hS.F ht⟩) hS.2.2 dX3_cutTold_69
          · exact absurd cq9 (by omega)
        | succ k ih =>
          intro j mo pl ft pa w ks kf fa la ftz ws H locs ls hk hj hz hmo hkf hP hD hS hl
          refine lv_iload_n hx hb dX3_cutTold_48 rfl (lv_at hl 0 rfl) ?_
          refine lv_iload_n hx hb dX3_cutTold_49 rfl (lv_at hl 2 rfl) ?_
          refine lx_icmp_ge (a := j) (b := Lm.1) (tgt := 68) hx hb dX3_cutTold_50 (by decide) (by omega) (by omega) (fun cq10 => ?_) (fun cq10 => ?_)
          · exact absurd cq10 (by omega)
          · refine lv_iload_n hx hb dX3_cutTold_53 rfl (lv_at hl 1 rfl) ?_
            refine lx_if_eq (a := mo) (tgt := 68) hx hb dX3_cutTold_54 (by decide) (by omega) (fun cq11 => ?_) (fun cq11 => ?_)
            · refine lv_iload_n hx hb dX3_cutTold_68 rfl (lv_at hl 1 rfl) ?_
              have hZ : (zCount (bA f n) n) = (pl, ftz, ws) := by rw [← hz]; first | rfl | exact zWords_neg (by omega)
              exact W.zret (v := iI (mo)) hx hb hr (nw_01 (by omega)) (fun t ht hW => ⟨⟨iI (mo), (ft, pa, w, ks, kf, fa, la), rfl, ⟨by rw [hZ]; show iI mo = iI (if 0 ≤ pl then 1 else 0); (rcases hmo with ⟨e, q, _⟩ | ⟨e, q, _⟩); rw [e, if_pos q]; rw [e, if_neg (by omega)], by rw [hZ]; show ft = (if pl = -2 then ftz else 0); (rcases hmo with ⟨e, q, _, _, q2, _⟩ | ⟨e, q, q2⟩); rw [q2, if_neg (by omega)]; exact q2, hkf, fun q => by rw [hZ] at q ⊢; have q : 0 ≤ pl := q; obtain ⟨hm1, hpl0, hpl1, hpp, hf0, hwj, hksp, hmr, hLm1⟩ := Or.resolve_right hmo (fun z => by omega); exact ⟨hpp, hmr, by show w ≤ 1024; omega, hksp⟩⟩, by rw [ht]; exact hP, va_K.moved hW.alike hK, hD⟩, hS.F ht⟩) hS.2.2 dX3_cutTold_69
            · refine lv_aload_n hx hb dX3_cutTold_57 rfl (lv_at hl 3 rfl) ?_
              obtain ⟨hm1, hpl0, hpl1, hpp, hf0, hwj, hksp, hmr, hLm1⟩ := Or.resolve_right hmo (fun q => by omega)
              subst hpp
              obtain ⟨V, hV⟩ : ∃ V, V = zWord (bA f n) n pa := ⟨_, rfl⟩
              have gW := zWord_rg f n pa
              rw [← hV] at gW
              refine vx_Vi (As := []) (rest := []) (wr := []) (ci := 3) (q0 := 0) [0, 1, 2, 3, 4] [] ⟨hx, hb, hml, hown, hts⟩ (c_X3_told l dC dI cB cI _ m0 mt mi mk mf ml tc n w ks ft pa f kf fa la hn hfit hkf (by omega) (by omega) (by omega)) (cwV 0 hts (gd_V tw_338 tw_340 tw_14 tw_22 tw_341) rfl rfl rfl (by decide +kernel) ⟨Nat.le_of_ble_eq_true rfl, Nat.le_of_ble_eq_true rfl⟩) hK hP hD hS hA rfl rfl rfl rfl (by decide) rfl rfl rfl rfl hl.1 rfl (Nat.le_of_ble_eq_true rfl) dX3_cutTold_58 ⟨Nat.zero_le _, Nat.zero_le _⟩ (fun r u H locs hw hP hD hS => ?_)
              obtain ⟨ft1, pa1, w1, ks1, kf1, fa1, la1⟩ := u
              try dsimp only at hw hP hD
              rw [← hV] at hw
              obtain ⟨hr1, hft1, hkf1, hx1⟩ := hw
              have hP : va_P (dC, dI) vwCl [(m0, .inr (3, [.ref mt, .ref mi, .ref mk, .ref mf, .ref ml, .int (iI ((tc : Int))), .int (iI ((n : Int))), .int (iI ((w1 : Int))), .int (iI ((ks1 : Int))), .int (iI (ft1)), .int (iI (pa1))])), (mi, .inl (cB, 65536, .inl (f))), (mk, .inl (cB, 65536, .inl (kf1))), (mf, .inl (cI, 1025, .inl (fun k => iI (fa1 k)))), (ml, .inl (cI, 1025, .inl (fun k => iI (la1 k))))] H := hP.sub [0, 1, 2, 3, 4] rfl
              have hD : va_D A [(m0, .inr (3, [.ref mt, .ref mi, .ref mk, .ref mf, .ref ml, .int (iI ((tc : Int))), .int (iI ((n : Int))), .int (iI ((w1 : Int))), .int (iI ((ks1 : Int))), .int (iI (ft1)), .int (iI (pa1))])), (mi, .inl (cB, 65536, .inl (f))), (mk, .inl (cB, 65536, .inl (kf1))), (mf, .inl (cI, 1025, .inl (fun k => iI (fa1 k)))), (ml, .inl (cI, 1025, .inl (fun k => iI (la1 k))))] := hD.sub [0, 1, 2, 3, 4] (by decide) rfl
              obtain ⟨b1, hb1, rfl⟩ := bo_of hr1
              refine lv_istore_n (lv' := [(2, .int (iI (b1))), (3, .int (iI (j))), (1, .int (iI (Lm.1))), (0, .ref m0)]) hx hb dX3_cutTold_61 rfl hl (by decide) rfl (fun ls hl => ?_)
              refine lv_iinc (v := iI (j + 1)) (lv' := [(3, .int (iI (j + 1))), (2, .int (iI (b1))), (1, .int (iI (Lm.1))), (0, .ref m0)]) hx hb dX3_cutTold_62 hl (k := 1) rfl (iI_add _ _) (by decide) rfl (fun ls hl => ?_)
              refine lv_goto (tgt := 48) hx hb dX3_cutTold_65 (by decide) ?_
              have hmo2 : ((b1 = 1 ∧ 0 ≤ V.1 ∧ V.1 ≤ n ∧ pa1 = V.1 ∧ ft1 = 0 ∧ (w1 : Int) = (j + 1) ∧ (ks1 : Int) ≤ V.1 ∧ mR f kf1 (ws ++ [V.2.2]) w1 ks1 fa1 la1 ∧ Lm.1 ≤ 1024) ∨ (b1 = 0 ∧ (V.1 = -1 ∨ V.1 = -2) ∧ ft1 = (if V.1 = -2 then V.2.1 else 0))) := by
                rcases hb1 with ⟨q, e⟩ | ⟨q, e⟩
                · obtain ⟨hp1, hw1, x, z, hxz, hks1, hfa1, hla1, hka, hkb⟩ := hx1 q
                  have e1 : V.2.2.1 = (x : Int) := by rw [hxz]
                  have e2 : V.2.2.2 = (z : Int) := by rw [hxz]
                  exact Or.inl ⟨e, q, by omega, hp1, by rw [hft1]; exact if_neg (by omega), by omega, by omega, by rw [hw1, hks1, hfa1, hla1, hxz]; exact mR_add hmr hka hkb, hLm1⟩
                · exact Or.inr ⟨e, by omega, hft1⟩
              clear hx1 hb1 hft1 hmo
              exact ih (j + 1) (b1) (V.1) (ft1) (pa1) (w1) (ks1) (kf1) (fa1) (la1) (V.2.1) (ws ++ [V.2.2]) _ _ ls (by omega) (by omega) (by rw [hV, ← zWords_suc (by omega)]; exact hz) (hmo2) (hkf1) (hP.sub [0, 1, 2, 3, 4] rfl) (hD.sub [0, 1, 2, 3, 4] (by decide) rfl) hS (lv_sub hl [0, 1, 2, 3] rfl)
      · refine lv_aload_n hx hb dX3_cutTold_33 rfl (lv_at hl 1 rfl) ?_
        refine va_get (D := (dC, dI)) (ci := 3) (v := .int (iI (0))) (C := "RequestCutterModel") (T := TX3) (N := 11) hx hb hts (fun w h => List.mem_cons_of_mem _ (inX3 w h)) hown hK hP 0 rfl rfl 9 (by decide) (hts _ (List.mem_cons_of_mem _ tw_275)) (fun _ h9 => h9) rfl dX3_cutTold_34 ?_
        refine lx_if_ne (a := 0) (tgt := 44) hx hb dX3_cutTold_37 (by decide) (by omega) (fun cq12 => ?_) (fun cq12 => ?_)
        · exact absurd cq12 (by omega)
        · refine lv_iconst (v := iI (1)) hx hb dX3_cutTold_40 rfl ?_
          refine lv_goto (tgt := 45) hx hb dX3_cutTold_41 (by decide) ?_
          refine lv_istore_n (lv' := [(2, .int (iI (1))), (1, .int (iI (Lm.1))), (0, .ref m0)]) hx hb dX3_cutTold_45 rfl hl (by decide) rfl (fun ls hl => ?_)
          refine lv_iconst (v := iI (0)) hx hb dX3_cutTold_46 rfl ?_
          refine lv_istore_n (lv' := [(3, .int (iI (0))), (2, .int (iI (1))), (1, .int (iI (Lm.1))), (0, .ref m0)]) hx hb dX3_cutTold_47 rfl hl (by decide) rfl (fun ls hl => ?_)
          obtain ⟨ft0, hft0⟩ : ∃ t : Int, t = (if L.1 = -2 then 1 else 0) := ⟨_, rfl⟩
          have hz0 : zWords (bA f n) n Lm.1.toNat L.1 ft0 [] = (zCount (bA f n) n) := by
            by_cases q : L.1 < 0
            · rw [zWords_neg q, zCount_neg hL q, hft0]
            · rw [zCount_pos hL q, hft0, show L.2 = Lm.1 by omega, if_neg (by omega)]
          refine (?_ : ∀ (k : Nat) (j : Int) (mo : Int) (pl : Int) (ft : Int) (pa : Int) (w : Nat) (ks : Nat) (kf : Nat → Int32) (fa : Nat → Int) (la : Nat → Int) (ftz : Int) (ws : List (Int × Int)) (H : Heap) (locs : List Loc) (ls : Array Slot), (Lm.1 - j ≤ k ∧ (0 < k → j + k = Lm.1)) → (0 ≤ j ∧ (j ≤ Lm.1 ∨ j = 0)) → zWords (bA f n) n k pl ftz ws = (zCount (bA f n) n) → ((mo = 1 ∧ 0 ≤ pl ∧ pl ≤ n ∧ pa = pl ∧ ft = 0 ∧ (w : Int) = j ∧ (ks : Int) ≤ pl ∧ mR f kf ws w ks fa la ∧ Lm.1 ≤ 1024) ∨ (mo = 0 ∧ (pl = -1 ∨ pl = -2) ∧ ft = (if pl = -2 then ftz else 0))) → sb_Fit kf → va_P (dC, dI) vwCl [(m0, .inr (3, [.ref mt, .ref mi, .ref mk, .ref mf, .ref ml, .int (iI ((tc : Int))), .int (iI ((n : Int))), .int (iI ((w : Int))), .int (iI ((ks : Int))), .int (iI (ft)), .int (iI (pa))])), (mi, .inl (cB, 65536, .inl (f))), (mk, .inl (cB, 65536, .inl (kf))), (mf, .inl (cI, 1025, .inl (fun k => iI (fa k)))), (ml, .inl (cI, 1025, .inl (fun k => iI (la k))))] H → va_D A [(m0, .inr (3, [.ref mt, .ref mi, .ref mk, .ref mf, .ref ml, .int (iI ((tc : Int))), .int (iI ((n : Int))), .int (iI ((w : Int))), .int (iI ((ks : Int))), .int (iI (ft)), .int (iI (pa))])), (mi, .inl (cB, 65536, .inl (f))), (mk, .inl (cB, 65536, .inl (kf))), (mf, .inl (cI, 1025, .inl (fun k => iI (fa k)))), (ml, .inl (cI, 1025, .inl (fun k => iI (la k))))] → va_S A s.heap H locs → lv_has ls 4 [(3, .int (iI (j))), (2, .int (iI (mo))), (1, .int (iI (Lm.1))), (0, .ref m0)] → W p l e _ s m _ below meth c H locs _ _ _ (F0 m 48 ls [])) (Lm.1.toNat) (0) (1) (L.1) (0) (Lm.2) (0) (0) (kf) (fa) (la) (ft0) ([]) _ _ ls (by omega) (by omega) (hz0) (Or.inl ⟨rfl, by omega, by omega, by omega, rfl, rfl, by show ((0 : Nat) : Int) ≤ L.1; omega, mR_0, by omega⟩) (hkf) (hP.sub [0, 1, 2, 3, 4] rfl) (hD.sub [0, 1, 2, 3, 4] (by decide) rfl) hS (lv_sub hl [0, 1, 2, 3] rfl)
          intro k
          induction k with
          | zero =>
            intro j mo pl ft pa w ks kf fa la ftz ws H locs ls hk hj hz hmo hkf hP hD hS hl
            refine lv_iload_n hx hb dX3_cutTold_48 rfl (lv_at hl 0 rfl) ?_
            refine lv_iload_n hx hb dX3_cutTold_49 rfl (lv_at hl 2 rfl) ?_
            refine lx_icmp_ge (a := j) (b := Lm.1) (tgt := 68) hx hb dX3_cutTold_50 (by decide) (by omega) (by omega) (fun cq13 => ?_) (fun cq13 => ?_)
            · refine lv_iload_n hx hb dX3_cutTold_68 rfl (lv_at hl 1 rfl) ?_
              have hZ : (zCount (bA f n) n) = (pl, ftz, ws) := by rw [← hz]; first | rfl | exact zWords_neg (by omega)
              exact W.zret (v := iI (mo)) hx hb hr (nw_01 (by omega)) (fun t ht hW => ⟨⟨iI (mo), (ft, pa, w, ks, kf, fa, la), rfl, ⟨by rw [hZ]; show iI mo = iI (if 0 ≤ pl then 1 else 0); (rcases hmo with ⟨e, q, _⟩ | ⟨e, q, _⟩); rw [e, if_pos q]; rw [e, if_neg (by omega)], by rw [hZ]; show ft = (if pl = -2 then ftz else 0); (rcases hmo with ⟨e, q, _, _, q2, _⟩ | ⟨e, q, q2⟩); rw [q2, if_neg (by omega)]; exact q2, hkf, fun q => by rw [hZ] at q ⊢; have q : 0 ≤ pl := q; obtain ⟨hm1, hpl0, hpl1, hpp, hf0, hwj, hksp, hmr, hLm1⟩ := Or.resolve_right hmo (fun z => by omega); exact ⟨hpp, hmr, by show w ≤ 1024; omega, hksp⟩⟩, by rw [ht]; exact hP, va_K.moved hW.alike hK, hD⟩, hS.F ht⟩) hS.2.2 dX3_cutTold_69
            · exact absurd cq13 (by omega)
          | succ k ih =>
            intro j mo pl ft pa w ks kf fa la ftz ws H locs ls hk hj hz hmo hkf hP hD hS hl
            refine lv_iload_n hx hb dX3_cutTold_48 rfl (lv_at hl 0 rfl) ?_
            refine lv_iload_n hx hb dX3_cutTold_49 rfl (lv_at hl 2 rfl) ?_
            refine lx_icmp_ge (a := j) (b := Lm.1) (tgt := 68) hx hb dX3_cutTold_50 (by decide) (by omega) (by omega) (fun cq14 => ?_) (fun cq14 => ?_)
            · exact absurd cq14 (by omega)
            · refine lv_iload_n hx hb dX3_cutTold_53 rfl (lv_at hl 1 rfl) ?_
              refine lx_if_eq (a := mo) (tgt := 68) hx hb dX3_cutTold_54 (by decide) (by omega) (fun cq15 => ?_) (fun cq15 => ?_)
              · refine lv_iload_n hx hb dX3_cutTold_68 rfl (lv_at hl 1 rfl) ?_
                have hZ : (zCount (bA f n) n) = (pl, ftz, ws) := by rw [← hz]; first | rfl | exact zWords_neg (by omega)
                exact W.zret (v := iI (mo)) hx hb hr (nw_01 (by omega)) (fun t ht hW => ⟨⟨iI (mo), (ft, pa, w, ks, kf, fa, la), rfl, ⟨by rw [hZ]; show iI mo = iI (if 0 ≤ pl then 1 else 0); (rcases hmo with ⟨e, q, _⟩ | ⟨e, q, _⟩); rw [e, if_pos q]; rw [e, if_neg (by omega)], by rw [hZ]; show ft = (if pl = -2 then ftz else 0); (rcases hmo with ⟨e, q, _, _, q2, _⟩ | ⟨e, q, q2⟩); rw [q2, if_neg (by omega)]; exact q2, hkf, fun q => by rw [hZ] at q ⊢; have q : 0 ≤ pl := q; obtain ⟨hm1, hpl0, hpl1, hpp, hf0, hwj, hksp, hmr, hLm1⟩ := Or.resolve_right hmo (fun z => by omega); exact ⟨hpp, hmr, by show w ≤ 1024; omega, hksp⟩⟩, by rw [ht]; exact hP, va_K.moved hW.alike hK, hD⟩, hS.F ht⟩) hS.2.2 dX3_cutTold_69
              · refine lv_aload_n hx hb dX3_cutTold_57 rfl (lv_at hl 3 rfl) ?_
                obtain ⟨hm1, hpl0, hpl1, hpp, hf0, hwj, hksp, hmr, hLm1⟩ := Or.resolve_right hmo (fun q => by omega)
                subst hpp
                obtain ⟨V, hV⟩ : ∃ V, V = zWord (bA f n) n pa := ⟨_, rfl⟩
                have gW := zWord_rg f n pa
                rw [← hV] at gW
                refine vx_Vi (As := []) (rest := []) (wr := []) (ci := 3) (q0 := 0) [0, 1, 2, 3, 4] [] ⟨hx, hb, hml, hown, hts⟩ (c_X3_told l dC dI cB cI _ m0 mt mi mk mf ml tc n w ks ft pa f kf fa la hn hfit hkf (by omega) (by omega) (by omega)) (cwV 0 hts (gd_V tw_338 tw_340 tw_14 tw_22 tw_341) rfl rfl rfl (by decide +kernel) ⟨Nat.le_of_ble_eq_true rfl, Nat.le_of_ble_eq_true rfl⟩) hK hP hD hS hA rfl rfl rfl rfl (by decide) rfl rfl rfl rfl hl.1 rfl (Nat.le_of_ble_eq_true rfl) dX3_cutTold_58 ⟨Nat.zero_le _, Nat.zero_le _⟩ (fun r u H locs hw hP hD hS => ?_)
                obtain ⟨ft1, pa1, w1, ks1, kf1, fa1, la1⟩ := u
                try dsimp only at hw hP hD
                rw [← hV] at hw
                obtain ⟨hr1, hft1, hkf1, hx1⟩ := hw
                have hP : va_P (dC, dI) vwCl [(m0, .inr (3, [.ref mt, .ref mi, .ref mk, .ref mf, .ref ml, .int (iI ((tc : Int))), .int (iI ((n : Int))), .int (iI ((w1 : Int))), .int (iI ((ks1 : Int))), .int (iI (ft1)), .int (iI (pa1))])), (mi, .inl (cB, 65536, .inl (f))), (mk, .inl (cB, 65536, .inl (kf1))), (mf, .inl (cI, 1025, .inl (fun k => iI (fa1 k)))), (ml, .inl (cI, 1025, .inl (fun k => iI (la1 k))))] H := hP.sub [0, 1, 2, 3, 4] rfl
                have hD : va_D A [(m0, .inr (3, [.ref mt, .ref mi, .ref mk, .ref mf, .ref ml, .int (iI ((tc : Int))), .int (iI ((n : Int))), .int (iI ((w1 : Int))), .int (iI ((ks1 : Int))), .int (iI (ft1)), .int (iI (pa1))])), (mi, .inl (cB, 65536, .inl (f))), (mk, .inl (cB, 65536, .inl (kf1))), (mf, .inl (cI, 1025, .inl (fun k => iI (fa1 k)))), (ml, .inl (cI, 1025, .inl (fun k => iI (la1 k))))] := hD.sub [0, 1, 2, 3, 4] (by decide) rfl
                obtain ⟨b1, hb1, rfl⟩ := bo_of hr1
                refine lv_istore_n (lv' := [(2, .int (iI (b1))), (3, .int (iI (j))), (1, .int (iI (Lm.1))), (0, .ref m0)]) hx hb dX3_cutTold_61 rfl hl (by decide) rfl (fun ls hl => ?_)
                refine lv_iinc (v := iI (j + 1)) (lv' := [(3, .int (iI (j + 1))), (2, .int (iI (b1))), (1, .int (iI (Lm.1))), (0, .ref m0)]) hx hb dX3_cutTold_62 hl (k := 1) rfl (iI_add _ _) (by decide) rfl (fun ls hl => ?_)
                refine lv_goto (tgt := 48) hx hb dX3_cutTold_65 (by decide) ?_
                have hmo2 : ((b1 = 1 ∧ 0 ≤ V.1 ∧ V.1 ≤ n ∧ pa1 = V.1 ∧ ft1 = 0 ∧ (w1 : Int) = (j + 1) ∧ (ks1 : Int) ≤ V.1 ∧ mR f kf1 (ws ++ [V.2.2]) w1 ks1 fa1 la1 ∧ Lm.1 ≤ 1024) ∨ (b1 = 0 ∧ (V.1 = -1 ∨ V.1 = -2) ∧ ft1 = (if V.1 = -2 then V.2.1 else 0))) := by
                  rcases hb1 with ⟨q, e⟩ | ⟨q, e⟩
                  · obtain ⟨hp1, hw1, x, z, hxz, hks1, hfa1, hla1, hka, hkb⟩ := hx1 q
                    have e1 : V.2.2.1 = (x : Int) := by rw [hxz]
                    have e2 : V.2.2.2 = (z : Int) := by rw [hxz]
                    exact Or.inl ⟨e, q, by omega, hp1, by rw [hft1]; exact if_neg (by omega), by omega, by omega, by rw [hw1, hks1, hfa1, hla1, hxz]; exact mR_add hmr hka hkb, hLm1⟩
                  · exact Or.inr ⟨e, by omega, hft1⟩
                clear hx1 hb1 hft1 hmo
                exact ih (j + 1) (b1) (V.1) (ft1) (pa1) (w1) (ks1) (kf1) (fa1) (la1) (V.2.1) (ws ++ [V.2.2]) _ _ ls (by omega) (by omega) (by rw [hV, ← zWords_suc (by omega)]; exact hz) (hmo2) (hkf1) (hP.sub [0, 1, 2, 3, 4] rfl) (hD.sub [0, 1, 2, 3, 4] (by decide) rfl) hS (lv_sub hl [0, 1, 2, 3] rfl)
    · refine lv_iconst (v := iI (1)) hx hb dX3_cutTold_19 rfl ?_
      refine lv_goto (tgt := 24) hx hb dX3_cutTold_20 (by decide) ?_
      refine va_put (D := (dC, dI)) (ci := 3) (v := .int (iI (1))) (ty := .int) (C := "RequestCutterModel") (T := TX3) (N := 11) hx hb hts (fun w h => List.mem_cons_of_mem _ (inX3 w h)) tyX3 tyX3_ok nmX3 hown hK hP hD hS 0 rfl rfl 9 (by decide) (hts _ (List.mem_cons_of_mem _ tw_275)) (fun _ h9 => h9) rfl (by decide +kernel) rfl rfl (Nat.le_of_ble_eq_true rfl) dX3_cutTold_24 (fun H locs hP hD hS => ?_)
      have hP : va_P (dC, dI) vwCl [(m0, .inr (3, [.ref mt, .ref mi, .ref mk, .ref mf, .ref ml, .int (iI ((tc : Int))), .int (iI ((n : Int))), .int (iI (((0 : Nat) : Int))), .int (iI (((0 : Nat) : Int))), .int (iI (1)), .int (iI (Lm.2))])), (mi, .inl (cB, 65536, .inl (f))), (mk, .inl (cB, 65536, .inl (kf))), (mf, .inl (cI, 1025, .inl (fun k => iI (fa k)))), (ml, .inl (cI, 1025, .inl (fun k => iI (la k))))] H := hP
      have hD : va_D A [(m0, .inr (3, [.ref mt, .ref mi, .ref mk, .ref mf, .ref ml, .int (iI ((tc : Int))), .int (iI ((n : Int))), .int (iI (((0 : Nat) : Int))), .int (iI (((0 : Nat) : Int))), .int (iI (1)), .int (iI (Lm.2))])), (mi, .inl (cB, 65536, .inl (f))), (mk, .inl (cB, 65536, .inl (kf))), (mf, .inl (cI, 1025, .inl (fun k => iI (fa k)))), (ml, .inl (cI, 1025, .inl (fun k => iI (la k))))] := hD
      refine lv_iload_n hx hb dX3_cutTold_27 rfl (lv_at hl 0 rfl) ?_
      refine lx_ldc (z := -1000000) (v := -1000000) hx hb hown (hts _ (List.mem_cons_of_mem _ tw_337)) (by decide) dX3_cutTold_28 ?_
      refine lx_icmp_eq (a := Lm.1) (b := -1000000) (tgt := 44) hx hb dX3_cutTold_30 (by decide) (by omega) (by omega) (fun cq16 => ?_) (fun cq16 => ?_)
      · exact absurd cq16 (by omega)
      · refine lv_aload_n hx hb dX3_cutTold_33 rfl (lv_at hl 1 rfl) ?_
        refine va_get (D := (dC, dI)) (ci := 3) (v := .int (iI (1))) (C := "RequestCutterModel") (T := TX3) (N := 11) hx hb hts (fun w h => List.mem_cons_of_mem _ (inX3 w h)) hown hK hP 0 rfl rfl 9 (by decide) (hts _ (List.mem_cons_of_mem _ tw_275)) (fun _ h9 => h9) rfl dX3_cutTold_34 ?_
        refine lx_if_ne (a := 1) (tgt := 44) hx hb dX3_cutTold_37 (by decide) (by omega) (fun cq17 => ?_) (fun cq17 => ?_)
        · refine lv_iconst (v := iI (0)) hx hb dX3_cutTold_44 rfl ?_
          refine lv_istore_n (lv' := [(2, .int (iI (0))), (1, .int (iI (Lm.1))), (0, .ref m0)]) hx hb dX3_cutTold_45 rfl hl (by decide) rfl (fun ls hl => ?_)
          refine lv_iconst (v := iI (0)) hx hb dX3_cutTold_46 rfl ?_
          refine lv_istore_n (lv' := [(3, .int (iI (0))), (2, .int (iI (0))), (1, .int (iI (Lm.1))), (0, .ref m0)]) hx hb dX3_cutTold_47 rfl hl (by decide) rfl (fun ls hl => ?_)
          obtain ⟨ft0, hft0⟩ : ∃ t : Int, t = (if L.1 = -2 then 1 else 0) := ⟨_, rfl⟩
          have hz0 : zWords (bA f n) n Lm.1.toNat L.1 ft0 [] = (zCount (bA f n) n) := by
            by_cases q : L.1 < 0
            · rw [zWords_neg q, zCount_neg hL q, hft0]
            · rw [zCount_pos hL q, hft0, show L.2 = Lm.1 by omega, if_neg (by omega)]
          refine (?_ : ∀ (k : Nat) (j : Int) (mo : Int) (pl : Int) (ft : Int) (pa : Int) (w : Nat) (ks : Nat) (kf : Nat → Int32) (fa : Nat → Int) (la : Nat → Int) (ftz : Int) (ws : List (Int × Int)) (H : Heap) (locs : List Loc) (ls : Array Slot), (Lm.1 - j ≤ k ∧ (0 < k → j + k = Lm.1)) → (0 ≤ j ∧ (j ≤ Lm.1 ∨ j = 0)) → zWords (bA f n) n k pl ftz ws = (zCount (bA f n) n) → ((mo = 1 ∧ 0 ≤ pl ∧ pl ≤ n ∧ pa = pl ∧ ft = 0 ∧ (w : Int) = j ∧ (ks : Int) ≤ pl ∧ mR f kf ws w ks fa la ∧ Lm.1 ≤ 1024) ∨ (mo = 0 ∧ (pl = -1 ∨ pl = -2) ∧ ft = (if pl = -2 then ftz else 0))) → sb_Fit kf → va_P (dC, dI) vwCl [(m0, .inr (3, [.ref mt, .ref mi, .ref mk, .ref mf, .ref ml, .int (iI ((tc : Int))), .int (iI ((n : Int))), .int (iI ((w : Int))), .int (iI ((ks : Int))), .int (iI (ft)), .int (iI (pa))])), (mi, .inl (cB, 65536, .inl (f))), (mk, .inl (cB, 65536, .inl (kf))), (mf, .inl (cI, 1025, .inl (fun k => iI (fa k)))), (ml, .inl (cI, 1025, .inl (fun k => iI (la k))))] H → va_D A [(m0, .inr (3, [.ref mt, .ref mi, .ref mk, .ref mf, .ref ml, .int (iI ((tc : Int))), .int (iI ((n : Int))), .int (iI ((w : Int))), .int (iI ((ks : Int))), .int (iI (ft)), .int (iI (pa))])), (mi, .inl (cB, 65536, .inl (f))), (mk, .inl (cB, 65536, .inl (kf))), (mf, .inl (cI, 1025, .inl (fun k => iI (fa k)))), (ml, .inl (cI, 1025, .inl (fun k => iI (la k))))] → va_S A s.heap H locs → lv_has ls 4 [(3, .int (iI (j))), (2, .int (iI (mo))), (1, .int (iI (Lm.1))), (0, .ref m0)] → W p l e _ s m _ below meth c H locs _ _ _ (F0 m 48 ls [])) (Lm.1.toNat) (0) (0) (L.1) (1) (Lm.2) (0) (0) (kf) (fa) (la) (ft0) ([]) _ _ ls (by omega) (by omega) (hz0) (Or.inr ⟨rfl, by omega, by rw [hft0]; rw [if_pos (by omega), if_pos (by omega)]⟩) (hkf) (hP.sub [0, 1, 2, 3, 4] rfl) (hD.sub [0, 1, 2, 3, 4] (by decide) rfl) hS (lv_sub hl [0, 1, 2, 3] rfl)
          intro k
          induction k with
          | zero =>
            intro j mo pl ft pa w ks kf fa la ftz ws H locs ls hk hj hz hmo hkf hP hD hS hl
            refine lv_iload_n hx hb dX3_cutTold_48 rfl (lv_at hl 0 rfl) ?_
            refine lv_iload_n hx hb dX3_cutTold_49 rfl (lv_at hl 2 rfl) ?_
            refine lx_icmp_ge (a := j) (b := Lm.1) (tgt := 68) hx hb dX3_cutTold_50 (by decide) (by omega) (by omega) (fun cq18 => ?_) (fun cq18 => ?_)
            · refine lv_iload_n hx hb dX3_cutTold_68 rfl (lv_at hl 1 rfl) ?_
              have hZ : (zCount (bA f n) n) = (pl, ftz, ws) := by rw [← hz]; first | rfl | exact zWords_neg (by omega)
              exact W.zret (v := iI (mo)) hx hb hr (nw_01 (by omega)) (fun t ht hW => ⟨⟨iI (mo), (ft, pa, w, ks, kf, fa, la), rfl, ⟨by rw [hZ]; show iI mo = iI (if 0 ≤ pl then 1 else 0); (rcases hmo with ⟨e, q, _⟩ | ⟨e, q, _⟩); rw [e, if_pos q]; rw [e, if_neg (by omega)], by rw [hZ]; show ft = (if pl = -2 then ftz else 0); (rcases hmo with ⟨e, q, _, _, q2, _⟩ | ⟨e, q, q2⟩); rw [q2, if_neg (by omega)]; exact q2, hkf, fun q => by rw [hZ] at q ⊢; have q : 0 ≤ pl := q; obtain ⟨hm1, hpl0, hpl1, hpp, hf0, hwj, hksp, hmr, hLm1⟩ := Or.resolve_right hmo (fun z => by omega); exact ⟨hpp, hmr, by show w ≤ 1024; omega, hksp⟩⟩, by rw [ht]; exact hP, va_K.moved hW.alike hK, hD⟩, hS.F ht⟩) hS.2.2 dX3_cutTold_69
            · exact absurd cq18 (by omega)
          | succ k ih =>
            intro j mo pl ft pa w ks kf fa la ftz ws H locs ls hk hj hz hmo hkf hP hD hS hl
            refine lv_iload_n hx hb dX3_cutTold_48 rfl (lv_at hl 0 rfl) ?_
            refine lv_iload_n hx hb dX3_cutTold_49 rfl (lv_at hl 2 rfl) ?_
            refine lx_icmp_ge (a := j) (b := Lm.1) (tgt := 68) hx hb dX3_cutTold_50 (by decide) (by omega) (by omega) (fun cq19 => ?_) (fun cq19 => ?_)
            · exact absurd cq19 (by omega)
            · refine lv_iload_n hx hb dX3_cutTold_53 rfl (lv_at hl 1 rfl) ?_
              refine lx_if_eq (a := mo) (tgt := 68) hx hb dX3_cutTold_54 (by decide) (by omega) (fun cq20 => ?_) (fun cq20 => ?_)
              · refine lv_iload_n hx hb dX3_cutTold_68 rfl (lv_at hl 1 rfl) ?_
                have hZ : (zCount (bA f n) n) = (pl, ftz, ws) := by rw [← hz]; first | rfl | exact zWords_neg (by omega)
                exact W.zret (v := iI (mo)) hx hb hr (nw_01 (by omega)) (fun t ht hW => ⟨⟨iI (mo), (ft, pa, w, ks, kf, fa, la), rfl, ⟨by rw [hZ]; show iI mo = iI (if 0 ≤ pl then 1 else 0); (rcases hmo with ⟨e, q, _⟩ | ⟨e, q, _⟩); rw [e, if_pos q]; rw [e, if_neg (by omega)], by rw [hZ]; show ft = (if pl = -2 then ftz else 0); (rcases hmo with ⟨e, q, _, _, q2, _⟩ | ⟨e, q, q2⟩); rw [q2, if_neg (by omega)]; exact q2, hkf, fun q => by rw [hZ] at q ⊢; have q : 0 ≤ pl := q; obtain ⟨hm1, hpl0, hpl1, hpp, hf0, hwj, hksp, hmr, hLm1⟩ := Or.resolve_right hmo (fun z => by omega); exact ⟨hpp, hmr, by show w ≤ 1024; omega, hksp⟩⟩, by rw [ht]; exact hP, va_K.moved hW.alike hK, hD⟩, hS.F ht⟩) hS.2.2 dX3_cutTold_69
              · refine lv_aload_n hx hb dX3_cutTold_57 rfl (lv_at hl 3 rfl) ?_
                obtain ⟨hm1, hpl0, hpl1, hpp, hf0, hwj, hksp, hmr, hLm1⟩ := Or.resolve_right hmo (fun q => by omega)
                subst hpp
                obtain ⟨V, hV⟩ : ∃ V, V = zWord (bA f n) n pa := ⟨_, rfl⟩
                have gW := zWord_rg f n pa
                rw [← hV] at gW
                refine vx_Vi (As := []) (rest := []) (wr := []) (ci := 3) (q0 := 0) [0, 1, 2, 3, 4] [] ⟨hx, hb, hml, hown, hts⟩ (c_X3_told l dC dI cB cI _ m0 mt mi mk mf ml tc n w ks ft pa f kf fa la hn hfit hkf (by omega) (by omega) (by omega)) (cwV 0 hts (gd_V tw_338 tw_340 tw_14 tw_22 tw_341) rfl rfl rfl (by decide +kernel) ⟨Nat.le_of_ble_eq_true rfl, Nat.le_of_ble_eq_true rfl⟩) hK hP hD hS hA rfl rfl rfl rfl (by decide) rfl rfl rfl rfl hl.1 rfl (Nat.le_of_ble_eq_true rfl) dX3_cutTold_58 ⟨Nat.zero_le _, Nat.zero_le _⟩ (fun r u H locs hw hP hD hS => ?_)
                obtain ⟨ft1, pa1, w1, ks1, kf1, fa1, la1⟩ := u
                try dsimp only at hw hP hD
                rw [← hV] at hw
                obtain ⟨hr1, hft1, hkf1, hx1⟩ := hw
                have hP : va_P (dC, dI) vwCl [(m0, .inr (3, [.ref mt, .ref mi, .ref mk, .ref mf, .ref ml, .int (iI ((tc : Int))), .int (iI ((n : Int))), .int (iI ((w1 : Int))), .int (iI ((ks1 : Int))), .int (iI (ft1)), .int (iI (pa1))])), (mi, .inl (cB, 65536, .inl (f))), (mk, .inl (cB, 65536, .inl (kf1))), (mf, .inl (cI, 1025, .inl (fun k => iI (fa1 k)))), (ml, .inl (cI, 1025, .inl (fun k => iI (la1 k))))] H := hP.sub [0, 1, 2, 3, 4] rfl
                have hD : va_D A [(m0, .inr (3, [.ref mt, .ref mi, .ref mk, .ref mf, .ref ml, .int (iI ((tc : Int))), .int (iI ((n : Int))), .int (iI ((w1 : Int))), .int (iI ((ks1 : Int))), .int (iI (ft1)), .int (iI (pa1))])), (mi, .inl (cB, 65536, .inl (f))), (mk, .inl (cB, 65536, .inl (kf1))), (mf, .inl (cI, 1025, .inl (fun k => iI (fa1 k)))), (ml, .inl (cI, 1025, .inl (fun k => iI (la1 k))))] := hD.sub [0, 1, 2, 3, 4] (by decide) rfl
                obtain ⟨b1, hb1, rfl⟩ := bo_of hr1
                refine lv_istore_n (lv' := [(2, .int (iI (b1))), (3, .int (iI (j))), (1, .int (iI (Lm.1))), (0, .ref m0)]) hx hb dX3_cutTold_61 rfl hl (by decide) rfl (fun ls hl => ?_)
                refine lv_iinc (v := iI (j + 1)) (lv' := [(3, .int (iI (j + 1))), (2, .int (iI (b1))), (1, .int (iI (Lm.1))), (0, .ref m0)]) hx hb dX3_cutTold_62 hl (k := 1) rfl (iI_add _ _) (by decide) rfl (fun ls hl => ?_)
                refine lv_goto (tgt := 48) hx hb dX3_cutTold_65 (by decide) ?_
                have hmo2 : ((b1 = 1 ∧ 0 ≤ V.1 ∧ V.1 ≤ n ∧ pa1 = V.1 ∧ ft1 = 0 ∧ (w1 : Int) = (j + 1) ∧ (ks1 : Int) ≤ V.1 ∧ mR f kf1 (ws ++ [V.2.2]) w1 ks1 fa1 la1 ∧ Lm.1 ≤ 1024) ∨ (b1 = 0 ∧ (V.1 = -1 ∨ V.1 = -2) ∧ ft1 = (if V.1 = -2 then V.2.1 else 0))) := by
                  rcases hb1 with ⟨q, e⟩ | ⟨q, e⟩
                  · obtain ⟨hp1, hw1, x, z, hxz, hks1, hfa1, hla1, hka, hkb⟩ := hx1 q
                    have e1 : V.2.2.1 = (x : Int) := by rw [hxz]
                    have e2 : V.2.2.2 = (z : Int) := by rw [hxz]
                    exact Or.inl ⟨e, q, by omega, hp1, by rw [hft1]; exact if_neg (by omega), by omega, by omega, by rw [hw1, hks1, hfa1, hla1, hxz]; exact mR_add hmr hka hkb, hLm1⟩
                  · exact Or.inr ⟨e, by omega, hft1⟩
                clear hx1 hb1 hft1 hmo
                exact ih (j + 1) (b1) (V.1) (ft1) (pa1) (w1) (ks1) (kf1) (fa1) (la1) (V.2.1) (ws ++ [V.2.2]) _ _ ls (by omega) (by omega) (by rw [hV, ← zWords_suc (by omega)]; exact hz) (hmo2) (hkf1) (hP.sub [0, 1, 2, 3, 4] rfl) (hD.sub [0, 1, 2, 3, 4] (by decide) rfl) hS (lv_sub hl [0, 1, 2, 3] rfl)
        · exact absurd cq17 (by omega)
