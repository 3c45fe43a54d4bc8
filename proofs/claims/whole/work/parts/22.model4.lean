set_option maxHeartbeats 4000000 in
set_option maxRecDepth 100000 in
/-- told() -/
theorem c_X3_told (l : Launch) (dC : Nat → ClassId) (dI : Nat → Nat → Nat) (cB cI : ClassId) (sz : Nat) (m0 mt mi mk mf ml tc n w ks : Nat) (ft pa : Int) (f kf : Nat → Int32) (fa la : Nat → Int) (hn : n ≤ 65536) (hfit : sb_Fit f) (hkf : sb_Fit kf) (hw : w ≤ 1023) (hpa : 0 ≤ pa ∧ pa ≤ n) (hkp : (ks : Int) ≤ pa) : Met l yX3_told wX3_told ({ frames := 1, cells := 0, slots := 0, locals := 27 }) (va_Pc [.ref m0] (vx_B (dC, dI) vwCl [(cB, .byte), (cI, .int)] [(m0, .inr (3, [.ref mt, .ref mi, .ref mk, .ref mf, .ref ml, .int (iI ((tc : Int))), .int (iI ((n : Int))), .int (iI ((w : Int))), .int (iI ((ks : Int))), .int (iI (ft)), .int (iI (pa))])), (mi, .inl (cB, 65536, .inl (f))), (mk, .inl (cB, 65536, .inl (kf))), (mf, .inl (cI, 1025, .inl (fun k => iI (fa k)))), (ml, .inl (cI, 1025, .inl (fun k => iI (la k))))] sz)) (va_Qi (fun (r : Int32) (u : Int × Int × Nat × Nat × (Nat → Int32) × (Nat → Int) × (Nat → Int)) => r = iI (if 0 ≤ (zWord (bA f n) n pa).1 then 1 else 0) ∧ u.1 = (if (zWord (bA f n) n pa).1 = -2 then (zWord (bA f n) n pa).2.1 else 0) ∧ sb_Fit u.2.2.2.2.1 ∧ (0 ≤ (zWord (bA f n) n pa).1 → u.2.1 = (zWord (bA f n) n pa).1 ∧ u.2.2.1 = w + 1 ∧ ∃ x z : Nat, (zWord (bA f n) n pa).2.2 = ((x : Int), (z : Int)) ∧ u.2.2.2.1 = ks + z ∧ u.2.2.2.2.2.1 = updZ fa w (ks : Int) ∧ u.2.2.2.2.2.2 = updZ la w (z : Int) ∧ (∀ j, j < ks → u.2.2.2.2.1 j = kf j) ∧ ∀ j, j < z → u.2.2.2.2.1 (ks + j) = f (x + j))) (fun (u : Int × Int × Nat × Nat × (Nat → Int32) × (Nat → Int) × (Nat → Int)) => vx_E (dC, dI) vwCl [(cB, .byte), (cI, .int)] (va_A [(m0, .inr (3, [.ref mt, .ref mi, .ref mk, .ref mf, .ref ml, .int (iI ((tc : Int))), .int (iI ((n : Int))), .int (iI ((w : Int))), .int (iI ((ks : Int))), .int (iI (ft)), .int (iI (pa))])), (mi, .inl (cB, 65536, .inl (f))), (mk, .inl (cB, 65536, .inl (kf))), (mf, .inl (cI, 1025, .inl (fun k => iI (fa k)))), (ml, .inl (cI, 1025, .inl (fun k => iI (la k))))] sz) [(m0, .inr (3, [.ref mt, .ref mi, .ref mk, .ref mf, .ref ml, .int (iI ((tc : Int))), .int (iI ((n : Int))), .int (iI ((u.2.2.1 : Int))), .int (iI ((u.2.2.2.1 : Int))), .int (iI (u.1)), .int (iI (u.2.1))])), (mi, .inl (cB, 65536, .inl (f))), (mk, .inl (cB, 65536, .inl (u.2.2.2.2.1))), (mf, .inl (cI, 1025, .inl (fun k => iI (u.2.2.2.2.2.1 k)))), (ml, .inl (cI, 1025, .inl (fun k => iI (u.2.2.2.2.2.2 k))))]) (va_A [(m0, .inr (3, [.ref mt, .ref mi, .ref mk, .ref mf, .ref ml, .int (iI ((tc : Int))), .int (iI ((n : Int))), .int (iI ((w : Int))), .int (iI ((ks : Int))), .int (iI (ft)), .int (iI (pa))])), (mi, .inl (cB, 65536, .inl (f))), (mk, .inl (cB, 65536, .inl (kf))), (mf, .inl (cI, 1025, .inl (fun k => iI (fa k)))), (ml, .inl (cI, 1025, .inl (fun k => iI (la k))))] sz)) (0) (0) (va_A [(m0, .inr (3, [.ref mt, .ref mi, .ref mk, .ref mf, .ref ml, .int (iI ((tc : Int))), .int (iI ((n : Int))), .int (iI ((w : Int))), .int (iI ((ks : Int))), .int (iI (ft)), .int (iI (pa))])), (mi, .inl (cB, 65536, .inl (f))), (mk, .inl (cB, 65536, .inl (kf))), (mf, .inl (cI, 1025, .inl (fun k => iI (fa k)))), (ml, .inl (cI, 1025, .inl (fun k => iI (la k))))] sz) := by
  refine Met.ofW (cc := cX3_told) (maxL := 6) (ret := (some .boolean)) (by decide) rfl ?_
  intro p e s m args below meth c s₁ B hml hv
  obtain ⟨rfl, hsz, hP, hK, hD0⟩ := hv
  have hx := B.exec
  have hb := B.bytes
  have hr := B.returns
  have hts := atoms_spec (ws := wX3_told) B.pre
  have hown : s.vm.findClass "RequestCutterModel" = some m.cls := findClass_of_methodNamed B.named
  have hlocks := B.notSynchronized
  subst hsz
  have hD := hD0.self (sz := s.heap.size)
  generalize hAe : va_A [(m0, .inr (3, [.ref mt, .ref mi, .ref mk, .ref mf, .ref ml, .int (iI ((tc : Int))), .int (iI ((n : Int))), .int (iI ((w : Int))), .int (iI ((ks : Int))), .int (iI (ft)), .int (iI (pa))])), (mi, .inl (cB, 65536, .inl (f))), (mk, .inl (cB, 65536, .inl (kf))), (mf, .inl (cI, 1025, .inl (fun k => iI (fa k)))), (ml, .inl (cI, 1025, .inl (fun k => iI (la k))))] s.heap.size = A at hD ⊢
  have hA : ∀ q : Nat, s.heap.size ≤ q → A q := fun q h => by rw [← hAe]; exact Or.inr h
  have hS : va_S A s.heap s.heap [] := va_S.rf
  have hP : va_P (dC, dI) vwCl [(m0, .inr (3, [.ref mt, .ref mi, .ref mk, .ref mf, .ref ml, .int (iI ((tc : Int))), .int (iI ((n : Int))), .int (iI ((w : Int))), .int (iI ((ks : Int))), .int (iI (ft)), .int (iI (pa))])), (mi, .inl (cB, 65536, .inl (f))), (mk, .inl (cB, 65536, .inl (kf))), (mf, .inl (cI, 1025, .inl (fun k => iI (fa k)))), (ml, .inl (cI, 1025, .inl (fun k => iI (la k))))] s.heap := hP
  have hl := lv_entry ([.ref m0]) (n := 6) (Nat.le_of_ble_eq_true rfl)
  rw [lg_entry_eq]
  generalize (lg_sl ([.ref m0]) ++ List.replicate (6 - (lg_sl ([.ref m0])).length) Slot.unset).toArray = ls at hl ⊢
  have hl : lv_has ls 6 [(0, .ref m0)] := hl
  refine lv_aload_n hx hb dX3_told_0 rfl (lv_at hl 0 rfl) ?_
  refine lv_bipush (v := iI (36)) hx hb dX3_told_1 (by decide) ?_
  have g_o := bA_or f n (pa) (by omega)
  refine vx_Vi (As := [.int (iI (36))]) (rest := []) (wr := [(mk, .inl (cB, 65536, .inl (kf))), (mf, .inl (cI, 1025, .inl (fun k => iI (fa k)))), (ml, .inl (cI, 1025, .inl (fun k => iI (la k))))]) (ci := 3) (q0 := 0) [0, 1] [2, 3, 4] ⟨hx, hb, hml, hown, hts⟩ (c_X3_must l dC dI cB cI _ m0 mt mi mk mf ml tc n w ks (ft) (pa) f hn hfit (by omega) (36) (by omega)) (cwV 1 hts (gd_V tw_342 tw_344 tw_15 tw_22 tw_345) rfl rfl rfl (by decide +kernel) ⟨Nat.le_of_ble_eq_true rfl, Nat.le_of_ble_eq_true rfl⟩) hK hP hD hS hA rfl rfl rfl rfl (by decide) rfl rfl rfl rfl hl.1 rfl (Nat.le_of_ble_eq_true rfl) dX3_told_3 ⟨Nat.zero_le _, Nat.zero_le _⟩ (fun r u H locs hw hP hD hS => ?_)
  obtain ⟨p1, rfl⟩ : ∃ z, z = u := ⟨_, rfl⟩
  try dsimp only at hw hP hD
  obtain ⟨hr1, hu1⟩ := hw
  have hP : va_P (dC, dI) vwCl [(m0, .inr (3, [.ref mt, .ref mi, .ref mk, .ref mf, .ref ml, .int (iI ((tc : Int))), .int (iI ((n : Int))), .int (iI ((w : Int))), .int (iI ((ks : Int))), .int (iI (ft)), .int (iI (p1))])), (mi, .inl (cB, 65536, .inl (f))), (mk, .inl (cB, 65536, .inl (kf))), (mf, .inl (cI, 1025, .inl (fun k => iI (fa k)))), (ml, .inl (cI, 1025, .inl (fun k => iI (la k))))] H := hP.sub [3, 4, 0, 1, 2] rfl
  have hD : va_D A [(m0, .inr (3, [.ref mt, .ref mi, .ref mk, .ref mf, .ref ml, .int (iI ((tc : Int))), .int (iI ((n : Int))), .int (iI ((w : Int))), .int (iI ((ks : Int))), .int (iI (ft)), .int (iI (p1))])), (mi, .inl (cB, 65536, .inl (f))), (mk, .inl (cB, 65536, .inl (kf))), (mf, .inl (cI, 1025, .inl (fun k => iI (fa k)))), (ml, .inl (cI, 1025, .inl (fun k => iI (la k))))] := hD.sub [3, 4, 0, 1, 2] (by decide) rfl
  obtain ⟨s2, hs_s2, rfl⟩ := mu_of hr1 hu1
  refine lv_istore_n (lv' := [(1, .int (iI (s2))), (0, .ref m0)]) hx hb dX3_told_6 rfl hl (by decide) rfl (fun ls hl => ?_)
  refine lv_aload_n hx hb dX3_told_7 rfl (lv_at hl 1 rfl) ?_
  refine lv_iload_n hx hb dX3_told_8 rfl (lv_at hl 0 rfl) ?_
  refine lx_if_ge (a := s2) (tgt := 16) hx hb dX3_told_9 (by decide) (by omega) (fun cq3 => ?_) (fun cq3 => ?_)
  · refine lv_iconst (v := iI (0)) hx hb dX3_told_16 rfl ?_
    refine va_put (D := (dC, dI)) (ci := 3) (v := .int (iI (0))) (ty := .int) (C := "RequestCutterModel") (T := TX3) (N := 11) hx hb hts (fun w h => List.mem_cons_of_mem _ (inX3 w h)) tyX3 tyX3_ok nmX3 hown hK hP hD hS 0 rfl rfl 9 (by decide) (hts _ (List.mem_cons_of_mem _ tw_275)) (fun _ h9 => h9) rfl (by decide +kernel) rfl rfl (Nat.le_of_ble_eq_true rfl) dX3_told_17 (fun H locs hP hD hS => ?_)
    have hP : va_P (dC, dI) vwCl [(m0, .inr (3, [.ref mt, .ref mi, .ref mk, .ref mf, .ref ml, .int (iI ((tc : Int))), .int (iI ((n : Int))), .int (iI ((w : Int))), .int (iI ((ks : Int))), .int (iI (0)), .int (iI (p1))])), (mi, .inl (cB, 65536, .inl (f))), (mk, .inl (cB, 65536, .inl (kf))), (mf, .inl (cI, 1025, .inl (fun k => iI (fa k)))), (ml, .inl (cI, 1025, .inl (fun k => iI (la k))))] H := hP
    have hD : va_D A [(m0, .inr (3, [.ref mt, .ref mi, .ref mk, .ref mf, .ref ml, .int (iI ((tc : Int))), .int (iI ((n : Int))), .int (iI ((w : Int))), .int (iI ((ks : Int))), .int (iI (0)), .int (iI (p1))])), (mi, .inl (cB, 65536, .inl (f))), (mk, .inl (cB, 65536, .inl (kf))), (mf, .inl (cI, 1025, .inl (fun k => iI (fa k)))), (ml, .inl (cI, 1025, .inl (fun k => iI (la k))))] := hD
    refine lv_iload_n hx hb dX3_told_20 rfl (lv_at hl 0 rfl) ?_
    refine lv_iconst (v := iI (1)) hx hb dX3_told_21 rfl ?_
    refine lx_icmp_ge (a := s2) (b := 1) (tgt := 27) hx hb dX3_told_22 (by decide) (by omega) (by omega) (fun cq4 => ?_) (fun cq4 => ?_)
    · refine lv_aload_n hx hb dX3_told_27 rfl (lv_at hl 1 rfl) ?_
      refine lv_dup hx hb dX3_told_28 rfl ?_
      refine va_get (D := (dC, dI)) (ci := 3) (v := .int (iI (p1))) (C := "RequestCutterModel") (T := TX3) (N := 11) hx hb hts (fun w h => List.mem_cons_of_mem _ (inX3 w h)) hown hK hP 0 rfl rfl 10 (by decide) (hts _ (List.mem_cons_of_mem _ tw_276)) (fun _ h9 => h9) rfl dX3_told_29 ?_
      refine lv_iconst (v := iI (1)) hx hb dX3_told_32 rfl ?_
      refine lx_isub (a := p1) (b := 1) hx hb dX3_told_33 ?_
      refine lx_top (x2 := iI pa) (congrArg iI (by omega)) ?_
      refine va_put (D := (dC, dI)) (ci := 3) (v := .int (iI (pa))) (ty := .int) (C := "RequestCutterModel") (T := TX3) (N := 11) hx hb hts (fun w h => List.mem_cons_of_mem _ (inX3 w h)) tyX3 tyX3_ok nmX3 hown hK hP hD hS 0 rfl rfl 10 (by decide) (hts _ (List.mem_cons_of_mem _ tw_276)) (fun _ h9 => h9) rfl (by decide +kernel) rfl rfl (Nat.le_of_ble_eq_true rfl) dX3_told_34 (fun H locs hP hD hS => ?_)
      have hP : va_P (dC, dI) vwCl [(m0, .inr (3, [.ref mt, .ref mi, .ref mk, .ref mf, .ref ml, .int (iI ((tc : Int))), .int (iI ((n : Int))), .int (iI ((w : Int))), .int (iI ((ks : Int))), .int (iI (0)), .int (iI (pa))])), (mi, .inl (cB, 65536, .inl (f))), (mk, .inl (cB, 65536, .inl (kf))), (mf, .inl (cI, 1025, .inl (fun k => iI (fa k)))), (ml, .inl (cI, 1025, .inl (fun k => iI (la k))))] H := hP
      have hD : va_D A [(m0, .inr (3, [.ref mt, .ref mi, .ref mk, .ref mf, .ref ml, .int (iI ((tc : Int))), .int (iI ((n : Int))), .int (iI ((w : Int))), .int (iI ((ks : Int))), .int (iI (0)), .int (iI (pa))])), (mi, .inl (cB, 65536, .inl (f))), (mk, .inl (cB, 65536, .inl (kf))), (mf, .inl (cI, 1025, .inl (fun k => iI (fa k)))), (ml, .inl (cI, 1025, .inl (fun k => iI (la k))))] := hD
      refine lv_aload_n hx hb dX3_told_37 rfl (lv_at hl 1 rfl) ?_
      obtain ⟨Lm, hLm⟩ : ∃ Lm, Lm = mL (bA f n) n pa := ⟨_, rfl⟩
      have gM := mL_rg f n pa (by omega)
      rw [← hLm] at gM
      obtain ⟨L, hL⟩ : ∃ L, L = zLine (bA f n) n pa 0 16384 := ⟨_, rfl⟩
      have gR := mL_rel (bA f n) n pa 0 16384 (by omega)
      rw [← hLm, ← hL] at gR
      have gLr := zLine_rg f n pa 0 16384
      rw [← hL] at gLr
      refine vx_Vi (As := []) (rest := []) (wr := [(mk, .inl (cB, 65536, .inl (kf))), (mf, .inl (cI, 1025, .inl (fun k => iI (fa k)))), (ml, .inl (cI, 1025, .inl (fun k => iI (la k))))]) (ci := 3) (q0 := 0) [0, 1] [2, 3, 4] ⟨hx, hb, hml, hown, hts⟩ (c_X3_line l dC dI cB cI _ m0 mt mi mk mf ml tc n w ks (0) pa f hn hfit (by omega)) (cwV 0 hts (gd_V tw_332 tw_334 tw_13 tw_22 tw_335) rfl rfl rfl (by decide +kernel) ⟨Nat.le_of_ble_eq_true rfl, Nat.le_of_ble_eq_true rfl⟩) hK hP hD hS hA rfl rfl rfl rfl (by decide) rfl rfl rfl rfl hl.1 rfl (Nat.le_of_ble_eq_true rfl) dX3_told_38 ⟨Nat.zero_le _, Nat.zero_le _⟩ (fun r u H locs hw hP hD hS => ?_)
      obtain ⟨q1, rfl⟩ : ∃ z, z = u := ⟨_, rfl⟩
      try dsimp only at hw hP hD
      rw [← hLm] at hw
      obtain ⟨rfl, hq1⟩ := hw
      have hP : va_P (dC, dI) vwCl [(m0, .inr (3, [.ref mt, .ref mi, .ref mk, .ref mf, .ref ml, .int (iI ((tc : Int))), .int (iI ((n : Int))), .int (iI ((w : Int))), .int (iI ((ks : Int))), .int (iI (0)), .int (iI (q1))])), (mi, .inl (cB, 65536, .inl (f))), (mk, .inl (cB, 65536, .inl (kf))), (mf, .inl (cI, 1025, .inl (fun k => iI (fa k)))), (ml, .inl (cI, 1025, .inl (fun k => iI (la k))))] H := hP.sub [3, 4, 0, 1, 2] rfl
      have hD : va_D A [(m0, .inr (3, [.ref mt, .ref mi, .ref mk, .ref mf, .ref ml, .int (iI ((tc : Int))), .int (iI ((n : Int))), .int (iI ((w : Int))), .int (iI ((ks : Int))), .int (iI (0)), .int (iI (q1))])), (mi, .inl (cB, 65536, .inl (f))), (mk, .inl (cB, 65536, .inl (kf))), (mf, .inl (cI, 1025, .inl (fun k => iI (fa k)))), (ml, .inl (cI, 1025, .inl (fun k => iI (la k))))] := hD.sub [3, 4, 0, 1, 2] (by decide) rfl
      subst hq1
      have hP : va_P (dC, dI) vwCl [(m0, .inr (3, [.ref mt, .ref mi, .ref mk, .ref mf, .ref ml, .int (iI ((tc : Int))), .int (iI ((n : Int))), .int (iI ((w : Int))), .int (iI ((ks : Int))), .int (iI (0)), .int (iI (Lm.2))])), (mi, .inl (cB, 65536, .inl (f))), (mk, .inl (cB, 65536, .inl (kf))), (mf, .inl (cI, 1025, .inl (fun k => iI (fa k)))), (ml, .inl (cI, 1025, .inl (fun k => iI (la k))))] H := hP
      refine lv_istore_n (lv' := [(2, .int (iI (Lm.1))), (1, .int (iI (s2))), (0, .ref m0)]) hx hb dX3_told_41 rfl hl (by decide) rfl (fun ls hl => ?_)
      refine lv_aload_n hx hb dX3_told_42 rfl (lv_at hl 2 rfl) ?_
      refine lv_iload_n hx hb dX3_told_43 rfl (lv_at hl 0 rfl) ?_
      refine lx_ldc (z := -1000001) (v := -1000001) hx hb hown (hts _ (List.mem_cons_of_mem _ tw_336)) (by decide) dX3_told_44 ?_
      refine lx_icmp_eq (a := Lm.1) (b := -1000001) (tgt := 66) hx hb dX3_told_46 (by decide) (by omega) (by omega) (fun cq5 => ?_) (fun cq5 => ?_)
      · refine lv_iconst (v := iI (3)) hx hb dX3_told_66 rfl ?_
        refine lv_goto (tgt := 71) hx hb dX3_told_67 (by decide) ?_
        refine va_put (D := (dC, dI)) (ci := 3) (v := .int (iI (3))) (ty := .int) (C := "RequestCutterModel") (T := TX3) (N := 11) hx hb hts (fun w h => List.mem_cons_of_mem _ (inX3 w h)) tyX3 tyX3_ok nmX3 hown hK hP hD hS 0 rfl rfl 9 (by decide) (hts _ (List.mem_cons_of_mem _ tw_275)) (fun _ h9 => h9) rfl (by decide +kernel) rfl rfl (Nat.le_of_ble_eq_true rfl) dX3_told_71 (fun H locs hP hD hS => ?_)
        have hP : va_P (dC, dI) vwCl [(m0, .inr (3, [.ref mt, .ref mi, .ref mk, .ref mf, .ref ml, .int (iI ((tc : Int))), .int (iI ((n : Int))), .int (iI ((w : Int))), .int (iI ((ks : Int))), .int (iI (3)), .int (iI (Lm.2))])), (mi, .inl (cB, 65536, .inl (f))), (mk, .inl (cB, 65536, .inl (kf))), (mf, .inl (cI, 1025, .inl (fun k => iI (fa k)))), (ml, .inl (cI, 1025, .inl (fun k => iI (la k))))] H := hP
        have hD : va_D A [(m0, .inr (3, [.ref mt, .ref mi, .ref mk, .ref mf, .ref ml, .int (iI ((tc : Int))), .int (iI ((n : Int))), .int (iI ((w : Int))), .int (iI ((ks : Int))), .int (iI (3)), .int (iI (Lm.2))])), (mi, .inl (cB, 65536, .inl (f))), (mk, .inl (cB, 65536, .inl (kf))), (mf, .inl (cI, 1025, .inl (fun k => iI (fa k)))), (ml, .inl (cI, 1025, .inl (fun k => iI (la k))))] := hD
        refine lv_iload_n hx hb dX3_told_74 rfl (lv_at hl 0 rfl) ?_
        refine lx_if_lt (a := Lm.1) (tgt := 85) hx hb dX3_told_75 (by decide) (by omega) (fun cq6 => ?_) (fun cq6 => ?_)
        · refine lv_iconst (v := iI (0)) hx hb dX3_told_85 rfl ?_
          have hZ := zWord_3 (a := (bA f n)) (n := n) (fr := pa) hL (by omega) (by omega)
          have e1 : L.1 = -2 := by omega
          rw [e1] at hZ
          exact W.zret (v := iI (0)) hx hb hr (by rfl) (fun t ht hW => ⟨⟨iI (0), (3, Lm.2, w, ks, kf, fa, la), rfl, ⟨by rw [hZ]; rfl, by rw [hZ]; rfl, hkf, fun q => by rw [hZ] at q; exact absurd q (by decide)⟩, by rw [ht]; exact hP, va_K.moved hW.alike hK, hD⟩, hS.F ht⟩) hS.2.2 dX3_told_86
        · exact absurd cq6 (by omega)
      · refine lv_iload_n hx hb dX3_told_49 rfl (lv_at hl 0 rfl) ?_
        refine lx_ldc (z := -1000000) (v := -1000000) hx hb hown (hts _ (List.mem_cons_of_mem _ tw_337)) (by decide) dX3_told_50 ?_
        refine lx_icmp_eq (a := Lm.1) (b := -1000000) (tgt := 70) hx hb dX3_told_52 (by decide) (by omega) (by omega) (fun cq7 => ?_) (fun cq7 => ?_)
        · refine lv_iconst (v := iI (0)) hx hb dX3_told_70 rfl ?_
          refine va_put (D := (dC, dI)) (ci := 3) (v := .int (iI (0))) (ty := .int) (C := "RequestCutterModel") (T := TX3) (N := 11) hx hb hts (fun w h => List.mem_cons_of_mem _ (inX3 w h)) tyX3 tyX3_ok nmX3 hown hK hP hD hS 0 rfl rfl 9 (by decide) (hts _ (List.mem_cons_of_mem _ tw_275)) (fun _ h9 => h9) rfl (by decide +kernel) rfl rfl (Nat.le_of_ble_eq_true rfl) dX3_told_71 (fun H locs hP hD hS => ?_)
          have hP : va_P (dC, dI) vwCl [(m0, .inr (3, [.ref mt, .ref mi, .ref mk, .ref mf, .ref ml, .int (iI ((tc : Int))), .int (iI ((n : Int))), .int (iI ((w : Int))), .int (iI ((ks : Int))), .int (iI (0)), .int (iI (Lm.2))])), (mi, .inl (cB, 65536, .inl (f))), (mk, .inl (cB, 65536, .inl (kf))), (mf, .inl (cI, 1025, .inl (fun k => iI (fa k)))), (ml, .inl (cI, 1025, .inl (fun k => iI (la k))))] H := hP
          have hD : va_D A [(m0, .inr (3, [.ref mt, .ref mi, .ref mk, .ref mf, .ref ml, .int (iI ((tc : Int))), .int (iI ((n : Int))), .int (iI ((w : Int))), .int (iI ((ks : Int))), .int (iI (0)), .int (iI (Lm.2))])), (mi, .inl (cB, 65536, .inl (f))), (mk, .inl (cB, 65536, .inl (kf))), (mf, .inl (cI, 1025, .inl (fun k => iI (fa k)))), (ml, .inl (cI, 1025, .inl (fun k => iI (la k))))] := hD
          refine lv_iload_n hx hb dX3_told_74 rfl (lv_at hl 0 rfl) ?_
          refine lx_if_lt (a := Lm.1) (tgt := 85) hx hb dX3_told_75 (by decide) (by omega) (fun cq8 => ?_) (fun cq8 => ?_)
          · refine lv_iconst (v := iI (0)) hx hb dX3_told_85 rfl ?_
            have hZ := zWord_3 (a := (bA f n)) (n := n) (fr := pa) hL (by omega) (by omega)
            have e1 : L.1 = -1 := by omega
            rw [e1] at hZ
            exact W.zret (v := iI (0)) hx hb hr (by rfl) (fun t ht hW => ⟨⟨iI (0), (0, Lm.2, w, ks, kf, fa, la), rfl, ⟨by rw [hZ]; rfl, by rw [hZ]; rfl, hkf, fun q => by rw [hZ] at q; exact absurd q (by decide)⟩, by rw [ht]; exact hP, va_K.moved hW.alike hK, hD⟩, hS.F ht⟩) hS.2.2 dX3_told_86
          · exact absurd cq8 (by omega)
        · refine lv_iload_n hx hb dX3_told_55 rfl (lv_at hl 0 rfl) ?_
          refine lx_if_lt (a := Lm.1) (tgt := 66) hx hb dX3_told_56 (by decide) (by omega) (fun cq9 => ?_) (fun cq9 => ?_)
          · refine lv_iconst (v := iI (3)) hx hb dX3_told_66 rfl ?_
            refine lv_goto (tgt := 71) hx hb dX3_told_67 (by decide) ?_
            refine va_put (D := (dC, dI)) (ci := 3) (v := .int (iI (3))) (ty := .int) (C := "RequestCutterModel") (T := TX3) (N := 11) hx hb hts (fun w h => List.mem_cons_of_mem _ (inX3 w h)) tyX3 tyX3_ok nmX3 hown hK hP hD hS 0 rfl rfl 9 (by decide) (hts _ (List.mem_cons_of_mem _ tw_275)) (fun _ h9 => h9) rfl (by decide +kernel) rfl rfl (Nat.le_of_ble_eq_true rfl) dX3_told_71 (fun H locs hP hD hS => ?_)
            have hP : va_P (dC, dI) vwCl [(m0, .inr (3, [.ref mt, .ref mi, .ref mk, .ref mf, .ref ml, .int (iI ((tc : Int))), .int (iI ((n : Int))), .int (iI ((w : Int))), .int (iI ((ks : Int))), .int (iI (3)), .int (iI (Lm.2))])), (mi, .inl (cB, 65536, .inl (f))), (mk, .inl (cB, 65536, .inl (kf))), (mf, .inl (cI, 1025, .inl (fun k => iI (fa k)))), (ml, .inl (cI, 1025, .inl (fun k => iI (la k))))] H := hP
            have hD : va_D A [(m0, .inr (3, [.ref mt, .ref mi, .ref mk, .ref mf, .ref ml, .int (iI ((tc : Int))), .int (iI ((n : Int))), .int (iI ((w : Int))), .int (iI ((ks : Int))), .int (iI (3)), .int (iI (Lm.2))])), (mi, .inl (cB, 65536, .inl (f))), (mk, .inl (cB, 65536, .inl (kf))), (mf, .inl (cI, 1025, .inl (fun k => iI (fa k)))), (ml, .inl (cI, 1025, .inl (fun k => iI (la k))))] := hD
            refine lv_iload_n hx hb dX3_told_74 rfl (lv_at hl 0 rfl) ?_
            refine lx_if_lt (a := Lm.1) (tgt := 85) hx hb dX3_told_75 (by decide) (by omega) (fun cq10 => ?_) (fun cq10 => ?_)
            · refine lv_iconst (v := iI (0)) hx hb dX3_told_85 rfl ?_
              have hZ := zWord_3 (a := (bA f n)) (n := n) (fr := pa) hL (by omega) (by omega)
              have e1 : L.1 = -2 := by omega
              rw [e1] at hZ
              exact W.zret (v := iI (0)) hx hb hr (by rfl) (fun t ht hW => ⟨⟨iI (0), (3, Lm.2, w, ks, kf, fa, la), rfl, ⟨by rw [hZ]; rfl, by rw [hZ]; rfl, hkf, fun q => by rw [hZ] at q; exact absurd q (by decide)⟩, by rw [ht]; exact hP, va_K.moved hW.alike hK, hD⟩, hS.F ht⟩) hS.2.2 dX3_told_86
            · exact absurd cq10 (by omega)
          · refine lv_iload_n hx hb dX3_told_59 rfl (lv_at hl 0 rfl) ?_
            refine lv_sipush (v := iI (16384)) hx hb dX3_told_60 (by decide) ?_
            refine lx_icmp_le (a := Lm.1) (b := 16384) (tgt := 70) hx hb dX3_told_63 (by decide) (by omega) (by omega) (fun cq11 => ?_) (fun cq11 => ?_)
            · refine lv_iconst (v := iI (0)) hx hb dX3_told_70 rfl ?_
              refine va_put (D := (dC, dI)) (ci := 3) (v := .int (iI (0))) (ty := .int) (C := "RequestCutterModel") (T := TX3) (N := 11) hx hb hts (fun w h => List.mem_cons_of_mem _ (inX3 w h)) tyX3 tyX3_ok nmX3 hown hK hP hD hS 0 rfl rfl 9 (by decide) (hts _ (List.mem_cons_of_mem _ tw_275)) (fun _ h9 => h9) rfl (by decide +kernel) rfl rfl (Nat.le_of_ble_eq_true rfl) dX3_told_71 (fun H locs hP hD hS => ?_)
              have hP : va_P (dC, dI) vwCl [(m0, .inr (3, [.ref mt, .ref mi, .ref mk, .ref mf, .ref ml, .int (iI ((tc : Int))), .int (iI ((n : Int))), .int (iI ((w : Int))), .int (iI ((ks : Int))), .int (iI (0)), .int (iI (Lm.2))])), (mi, .inl (cB, 65536, .inl (f))), (mk, .inl (cB, 65536, .inl (kf))), (mf, .inl (cI, 1025, .inl (fun k => iI (fa k)))), (ml, .inl (cI, 1025, .inl (fun k => iI (la k))))] H := hP
              have hD : va_D A [(m0, .inr (3, [.ref mt, .ref mi, .ref mk, .ref mf, .ref ml, .int (iI ((tc : Int))), .int (iI ((n : Int))), .int (iI ((w : Int))), .int (iI ((ks : Int))), .int (iI (0)), .int (iI (Lm.2))])), (mi, .inl (cB, 65536, .inl (f))), (mk, .inl (cB, 65536, .inl (kf))), (mf, .inl (cI, 1025, .inl (fun k => iI (fa k)))), (ml, .inl (cI, 1025, .inl (fun k => iI (la k))))] := hD
              refine lv_iload_n hx hb dX3_told_74 rfl (lv_at hl 0 rfl) ?_
              refine lx_if_lt (a := Lm.1) (tgt := 85) hx hb dX3_told_75 (by decide) (by omega) (fun cq12 => ?_) (fun cq12 => ?_)
              · exact absurd cq12 (by omega)
              · refine lv_aload_n hx hb dX3_told_78 rfl (lv_at hl 2 rfl) ?_
                refine va_get (D := (dC, dI)) (ci := 3) (v := .int (iI (0))) (C := "RequestCutterModel") (T := TX3) (N := 11) hx hb hts (fun w h => List.mem_cons_of_mem _ (inX3 w h)) hown hK hP 0 rfl rfl 9 (by decide) (hts _ (List.mem_cons_of_mem _ tw_275)) (fun _ h9 => h9) rfl dX3_told_79 ?_
                refine lx_if_le (a := 0) (tgt := 87) hx hb dX3_told_82 (by decide) (by omega) (fun cq13 => ?_) (fun cq13 => ?_)
                · refine lv_aload_n hx hb dX3_told_87 rfl (lv_at hl 2 rfl) ?_
                  refine va_get (D := (dC, dI)) (ci := 3) (v := .int (iI (Lm.2))) (C := "RequestCutterModel") (T := TX3) (N := 11) hx hb hts (fun w h => List.mem_cons_of_mem _ (inX3 w h)) hown hK hP 0 rfl rfl 10 (by decide) (hts _ (List.mem_cons_of_mem _ tw_276)) (fun _ h9 => h9) rfl dX3_told_88 ?_
                  refine lv_istore_n (lv' := [(3, .int (iI (Lm.2))), (2, .int (iI (Lm.1))), (1, .int (iI (s2))), (0, .ref m0)]) hx hb dX3_told_91 rfl hl (by decide) rfl (fun ls hl => ?_)
                  refine lv_aload_n hx hb dX3_told_92 rfl (lv_at hl 3 rfl) ?_
                  refine lv_dup hx hb dX3_told_93 rfl ?_
                  refine va_get (D := (dC, dI)) (ci := 3) (v := .int (iI (Lm.2))) (C := "RequestCutterModel") (T := TX3) (N := 11) hx hb hts (fun w h => List.mem_cons_of_mem _ (inX3 w h)) hown hK hP 0 rfl rfl 10 (by decide) (hts _ (List.mem_cons_of_mem _ tw_276)) (fun _ h9 => h9) rfl dX3_told_94 ?_
                  refine lv_iload_n hx hb dX3_told_97 rfl (lv_at hl 1 rfl) ?_
                  refine lx_iadd (a := Lm.2) (b := Lm.1) hx hb dX3_told_98 ?_
                  refine va_put (D := (dC, dI)) (ci := 3) (v := .int (iI (Lm.2 + Lm.1))) (ty := .int) (C := "RequestCutterModel") (T := TX3) (N := 11) hx hb hts (fun w h => List.mem_cons_of_mem _ (inX3 w h)) tyX3 tyX3_ok nmX3 hown hK hP hD hS 0 rfl rfl 10 (by decide) (hts _ (List.mem_cons_of_mem _ tw_276)) (fun _ h9 => h9) rfl (by decide +kernel) rfl rfl (Nat.le_of_ble_eq_true rfl) dX3_told_99 (fun H locs hP hD hS => ?_)
                  have hP : va_P (dC, dI) vwCl [(m0, .inr (3, [.ref mt, .ref mi, .ref mk, .ref mf, .ref ml, .int (iI ((tc : Int))), .int (iI ((n : Int))), .int (iI ((w : Int))), .int (iI ((ks : Int))), .int (iI (0)), .int (iI (Lm.2 + Lm.1))])), (mi, .inl (cB, 65536, .inl (f))), (mk, .inl (cB, 65536, .inl (kf))), (mf, .inl (cI, 1025, .inl (fun k => iI (fa k)))), (ml, .inl (cI, 1025, .inl (fun k => iI (la k))))] H := hP
                  have hD : va_D A [(m0, .inr (3, [.ref mt, .ref mi, .ref mk, .ref mf, .ref ml, .int (iI ((tc : Int))), .int (iI ((n : Int))), .int (iI ((w : Int))), .int (iI ((ks : Int))), .int (iI (0)), .int (iI (Lm.2 + Lm.1))])), (mi, .inl (cB, 65536, .inl (f))), (mk, .inl (cB, 65536, .inl (kf))), (mf, .inl (cI, 1025, .inl (fun k => iI (fa k)))), (ml, .inl (cI, 1025, .inl (fun k => iI (la k))))] := hD
                  refine lv_aload_n hx hb dX3_told_102 rfl (lv_at hl 3 rfl) ?_
                  refine lv_bipush (v := iI (13)) hx hb dX3_told_103 (by decide) ?_
                  have g_o := bA_or f n (Lm.2 + Lm.1) (by omega)
                  refine vx_Vi (As := [.int (iI (13))]) (rest := []) (wr := [(mk, .inl (cB, 65536, .inl (kf))), (mf, .inl (cI, 1025, .inl (fun k => iI (fa k)))), (ml, .inl (cI, 1025, .inl (fun k => iI (la k))))]) (ci := 3) (q0 := 0) [0, 1] [2, 3, 4] ⟨hx, hb, hml, hown, hts⟩ (c_X3_must l dC dI cB cI _ m0 mt mi mk mf ml tc n w ks (0) (Lm.2 + Lm.1) f hn hfit (by omega) (13) (by omega)) (cwV 1 hts (gd_V tw_342 tw_344 tw_15 tw_22 tw_345) rfl rfl rfl (by decide +kernel) ⟨Nat.le_of_ble_eq_true rfl, Nat.le_of_ble_eq_true rfl⟩) hK hP hD hS hA rfl rfl rfl rfl (by decide) rfl rfl rfl rfl hl.1 rfl (Nat.le_of_ble_eq_true rfl) dX3_told_105 ⟨Nat.zero_le _, Nat.zero_le _⟩ (fun r u H locs hw hP hD hS => ?_)
                  obtain ⟨p14, rfl⟩ : ∃ z, z = u := ⟨_, rfl⟩
                  try dsimp only at hw hP hD
                  obtain ⟨hr1, hu1⟩ := hw
                  have hP : va_P (dC, dI) vwCl [(m0, .inr (3, [.ref mt, .ref mi, .ref mk, .ref mf, .ref ml, .int (iI ((tc : Int))), .int (iI ((n : Int))), .int (iI ((w : Int))), .int (iI ((ks : Int))), .int (iI (0)), .int (iI (p14))])), (mi, .inl (cB, 65536, .inl (f))), (mk, .inl (cB, 65536, .inl (kf))), (mf, .inl (cI, 1025, .inl (fun k => iI (fa k)))), (ml, .inl (cI, 1025, .inl (fun k => iI (la k))))] H := hP.sub [3, 4, 0, 1, 2] rfl
                  have hD : va_D A [(m0, .inr (3, [.ref mt, .ref mi, .ref mk, .ref mf, .ref ml, .int (iI ((tc : Int))), .int (iI ((n : Int))), .int (iI ((w : Int))), .int (iI ((ks : Int))), .int (iI (0)), .int (iI (p14))])), (mi, .inl (cB, 65536, .inl (f))), (mk, .inl (cB, 65536, .inl (kf))), (mf, .inl (cI, 1025, .inl (fun k => iI (fa k)))), (ml, .inl (cI, 1025, .inl (fun k => iI (la k))))] := hD.sub [3, 4, 0, 1, 2] (by decide) rfl
                  obtain ⟨s15, hs_s15, rfl⟩ := mu_of hr1 hu1
                  refine lv_istore (lv' := [(4, .int (iI (s15))), (3, .int (iI (Lm.2))), (2, .int (iI (Lm.1))), (1, .int (iI (s2))), (0, .ref m0)]) hx hb dX3_told_108 hl (by decide) rfl (fun ls hl => ?_)
                  refine lv_iload hx hb dX3_told_110 (lv_at hl 0 rfl) ?_
                  refine lx_if_le (a := s15) (tgt := 124) hx hb dX3_told_112 (by decide) (by omega) (fun cq16 => ?_) (fun cq16 => ?_)
                  · refine lv_iconst (v := iI (0)) hx hb dX3_told_124 rfl ?_
                    refine lv_istore (lv' := [(5, .int (iI (0))), (4, .int (iI (s15))), (3, .int (iI (Lm.2))), (2, .int (iI (Lm.1))), (1, .int (iI (s2))), (0, .ref m0)]) hx hb dX3_told_125 hl (by decide) rfl (fun ls hl => ?_)
                    refine lv_aload_n hx hb dX3_told_127 rfl (lv_at hl 5 rfl) ?_
                    refine lv_iload hx hb dX3_told_128 (lv_at hl 1 rfl) ?_
                    refine lx_if_lt (a := s15) (tgt := 138) hx hb dX3_told_130 (by decide) (by omega) (fun cq17 => ?_) (fun cq17 => ?_)
                    · refine lv_iconst (v := iI (4)) hx hb dX3_told_138 rfl ?_
                      refine lv_goto (tgt := 143) hx hb dX3_told_139 (by decide) ?_
                      refine va_put (D := (dC, dI)) (ci := 3) (v := .int (iI (4))) (ty := .int) (C := "RequestCutterModel") (T := TX3) (N := 11) hx hb hts (fun w h => List.mem_cons_of_mem _ (inX3 w h)) tyX3 tyX3_ok nmX3 hown hK hP hD hS 0 rfl rfl 9 (by decide) (hts _ (List.mem_cons_of_mem _ tw_275)) (fun _ h9 => h9) rfl (by decide +kernel) rfl rfl (Nat.le_of_ble_eq_true rfl) dX3_told_143 (fun H locs hP hD hS => ?_)
                      have hP : va_P (dC, dI) vwCl [(m0, .inr (3, [.ref mt, .ref mi, .ref mk, .ref mf, .ref ml, .int (iI ((tc : Int))), .int (iI ((n : Int))), .int (iI ((w : Int))), .int (iI ((ks : Int))), .int (iI (4)), .int (iI (p14))])), (mi, .inl (cB, 65536, .inl (f))), (mk, .inl (cB, 65536, .inl (kf))), (mf, .inl (cI, 1025, .inl (fun k => iI (fa k)))), (ml, .inl (cI, 1025, .inl (fun k => iI (la k))))] H := hP
                      have hD : va_D A [(m0, .inr (3, [.ref mt, .ref mi, .ref mk, .ref mf, .ref ml, .int (iI ((tc : Int))), .int (iI ((n : Int))), .int (iI ((w : Int))), .int (iI ((ks : Int))), .int (iI (4)), .int (iI (p14))])), (mi, .inl (cB, 65536, .inl (f))), (mk, .inl (cB, 65536, .inl (kf))), (mf, .inl (cI, 1025, .inl (fun k => iI (fa k)))), (ml, .inl (cI, 1025, .inl (fun k => iI (la k))))] := hD
                      refine lv_iload hx hb dX3_told_146 (lv_at hl 0 rfl) ?_
                      refine lv_iconst (v := iI (1)) hx hb dX3_told_148 rfl ?_
                      refine lx_icmp_ge (a := 0) (b := 1) (tgt := 154) hx hb dX3_told_149 (by decide) (by omega) (by omega) (fun cq18 => ?_) (fun cq18 => ?_)
                      · exact absurd cq18 (by omega)
                      · refine lv_iconst (v := iI (0)) hx hb dX3_told_152 rfl ?_
                        have hE : zEnd (bA f n) (Lm.2 + Lm.1) = -2 := by unfold zEnd; repeat (first | rw [if_pos (by omega)] | rw [if_neg (by omega)])
                        have hZ := zWord_4 (a := (bA f n)) (n := n) (fr := pa) hL (by omega) (by omega)
                        rw [show L.1 = Lm.2 by omega, show L.2 = Lm.1 by omega, hE] at hZ
                        exact W.zret (v := iI (0)) hx hb hr (by rfl) (fun t ht hW => ⟨⟨iI (0), (4, p14, w, ks, kf, fa, la), rfl, ⟨by rw [hZ]; rfl, by rw [hZ]; rfl, hkf, fun q => by rw [hZ] at q; exact absurd (show (0 : Int) ≤ -2 from q) (by decide)⟩, by rw [ht]; exact hP, va_K.moved hW.alike hK, hD⟩, hS.F ht⟩) hS.2.2 dX3_told_153
                    · refine lv_iload hx hb dX3_told_133 (lv_at hl 0 rfl) ?_
                      refine lx_if_ge (a := 0) (tgt := 142) hx hb dX3_told_135 (by decide) (by omega) (fun cq19 => ?_) (fun cq19 => ?_)
                      · refine lv_iconst (v := iI (0)) hx hb dX3_told_142 rfl ?_
                        refine va_put (D := (dC, dI)) (ci := 3) (v := .int (iI (0))) (ty := .int) (C := "RequestCutterModel") (T := TX3) (N := 11) hx hb hts (fun w h => List.mem_cons_of_mem _ (inX3 w h)) tyX3 tyX3_ok nmX3 hown hK hP hD hS 0 rfl rfl 9 (by decide) (hts _ (List.mem_cons_of_mem _ tw_275)) (fun _ h9 => h9) rfl (by decide +kernel) rfl rfl (Nat.le_of_ble_eq_true rfl) dX3_told_143 (fun H locs hP hD hS => ?_)
                        have hP : va_P (dC, dI) vwCl [(m0, .inr (3, [.ref mt, .ref mi, .ref mk, .ref mf, .ref ml, .int (iI ((tc : Int))), .int (iI ((n : Int))), .int (iI ((w : Int))), .int (iI ((ks : Int))), .int (iI (0)), .int (iI (p14))])), (mi, .inl (cB, 65536, .inl (f))), (mk, .inl (cB, 65536, .inl (kf))), (mf, .inl (cI, 1025, .inl (fun k => iI (fa k)))), (ml, .inl (cI, 1025, .inl (fun k => iI (la k))))] H := hP
                        have hD : va_D A [(m0, .inr (3, [.ref mt, .ref mi, .ref mk, .ref mf, .ref ml, .int (iI ((tc : Int))), .int (iI ((n : Int))), .int (iI ((w : Int))), .int (iI ((ks : Int))), .int (iI (0)), .int (iI (p14))])), (mi, .inl (cB, 65536, .inl (f))), (mk, .inl (cB, 65536, .inl (kf))), (mf, .inl (cI, 1025, .inl (fun k => iI (fa k)))), (ml, .inl (cI, 1025, .inl (fun k => iI (la k))))] := hD
                        refine lv_iload hx hb dX3_told_146 (lv_at hl 0 rfl) ?_
                        refine lv_iconst (v := iI (1)) hx hb dX3_told_148 rfl ?_
                        refine lx_icmp_ge (a := 0) (b := 1) (tgt := 154) hx hb dX3_told_149 (by decide) (by omega) (by omega) (fun cq20 => ?_) (fun cq20 => ?_)
                        · exact absurd cq20 (by omega)
                        · refine lv_iconst (v := iI (0)) hx hb dX3_told_152 rfl ?_
                          have hE : zEnd (bA f n) (Lm.2 + Lm.1) = -1 := by unfold zEnd; repeat (first | rw [if_pos (by omega)] | rw [if_neg (by omega)])
                          have hZ := zWord_4 (a := (bA f n)) (n := n) (fr := pa) hL (by omega) (by omega)
                          rw [show L.1 = Lm.2 by omega, show L.2 = Lm.1 by omega, hE] at hZ
                          exact W.zret (v := iI (0)) hx hb hr (by rfl) (fun t ht hW => ⟨⟨iI (0), (0, p14, w, ks, kf, fa, la), rfl, ⟨by rw [hZ]; rfl, by rw [hZ]; rfl, hkf, fun q => by rw [hZ] at q; exact absurd (show (0 : Int) ≤ -1 from q) (by decide)⟩, by rw [ht]; exact hP, va_K.moved hW.alike hK, hD⟩, hS.F ht⟩) hS.2.2 dX3_told_153
                      · exact absurd cq19 (by omega)
                  · obtain rfl : p14 = Lm.2 + Lm.1 + 1 := by omega
                    refine lv_aload_n hx hb dX3_told_115 rfl (lv_at hl 4 rfl) ?_
                    refine lv_bipush (v := iI (10)) hx hb dX3_told_116 (by decide) ?_
                    have g_o := bA_or f n (Lm.2 + Lm.1 + 1) (by omega)
                    refine vx_Vi (As := [.int (iI (10))]) (rest := []) (wr := [(mk, .inl (cB, 65536, .inl (kf))), (mf, .inl (cI, 1025, .inl (fun k => iI (fa k)))), (ml, .inl (cI, 1025, .inl (fun k => iI (la k))))]) (ci := 3) (q0 := 0) [0, 1] [2, 3, 4] ⟨hx, hb, hml, hown, hts⟩ (c_X3_must l dC dI cB cI _ m0 mt mi mk mf ml tc n w ks (0) (Lm.2 + Lm.1 + 1) f hn hfit (by omega) (10) (by omega)) (cwV 1 hts (gd_V tw_342 tw_344 tw_15 tw_22 tw_345) rfl rfl rfl (by decide +kernel) ⟨Nat.le_of_ble_eq_true rfl, Nat.le_of_ble_eq_true rfl⟩) hK hP hD hS hA rfl rfl rfl rfl (by decide) rfl rfl rfl rfl hl.1 rfl (Nat.le_of_ble_eq_true rfl) dX3_told_118 ⟨Nat.zero_le _, Nat.zero_le _⟩ (fun r u H locs hw hP hD hS => ?_)
                    obtain ⟨p21, rfl⟩ : ∃ z, z = u := ⟨_, rfl⟩
                    try dsimp only at hw hP hD
                    obtain ⟨hr1, hu1⟩ := hw
                    have hP : va_P (dC, dI) vwCl [(m0, .inr (3, [.ref mt, .ref mi, .ref mk, .ref mf, .ref ml, .int (iI ((tc : Int))), .int (iI ((n : Int))), .int (iI ((w : Int))), .int (iI ((ks : Int))), .int (iI (0)), .int (iI (p21))])), (mi, .inl (cB, 65536, .inl (f))), (mk, .inl (cB, 65536, .inl (kf))), (mf, .inl (cI, 1025, .inl (fun k => iI (fa k)))), (ml, .inl (cI, 1025, .inl (fun k => iI (la k))))] H := hP.sub [3, 4, 0, 1, 2] rfl
                    have hD : va_D A [(m0, .inr (3, [.ref mt, .ref mi, .ref mk, .ref mf, .ref ml, .int (iI ((tc : Int))), .int (iI ((n : Int))), .int (iI ((w : Int))), .int (iI ((ks : Int))), .int (iI (0)), .int (iI (p21))])), (mi, .inl (cB, 65536, .inl (f))), (mk, .inl (cB, 65536, .inl (kf))), (mf, .inl (cI, 1025, .inl (fun k => iI (fa k)))), (ml, .inl (cI, 1025, .inl (fun k => iI (la k))))] := hD.sub [3, 4, 0, 1, 2] (by decide) rfl
                    obtain ⟨s22, hs_s22, rfl⟩ := mu_of hr1 hu1
                    refine lv_goto (tgt := 125) hx hb dX3_told_121 (by decide) ?_
                    refine lv_istore (lv' := [(5, .int (iI (s22))), (4, .int (iI (s15))), (3, .int (iI (Lm.2))), (2, .int (iI (Lm.1))), (1, .int (iI (s2))), (0, .ref m0)]) hx hb dX3_told_125 hl (by decide) rfl (fun ls hl => ?_)
                    refine lv_aload_n hx hb dX3_told_127 rfl (lv_at hl 5 rfl) ?_
                    refine lv_iload hx hb dX3_told_128 (lv_at hl 1 rfl) ?_
                    refine lx_if_lt (a := s15) (tgt := 138) hx hb dX3_told_130 (by decide) (by omega) (fun cq23 => ?_) (fun cq23 => ?_)
                    · exact absurd cq23 (by omega)
                    · refine lv_iload hx hb dX3_told_133 (lv_at hl 0 rfl) ?_
                      refine lx_if_ge (a := s22) (tgt := 142) hx hb dX3_told_135 (by decide) (by omega) (fun cq24 => ?_) (fun cq24 => ?_)
                      · refine lv_iconst (v := iI (0)) hx hb dX3_told_142 rfl ?_
                        refine va_put (D := (dC, dI)) (ci := 3) (v := .int (iI (0))) (ty := .int) (C := "RequestCutterModel") (T := TX3) (N := 11) hx hb hts (fun w h => List.mem_cons_of_mem _ (inX3 w h)) tyX3 tyX3_ok nmX3 hown hK hP hD hS 0 rfl rfl 9 (by decide) (hts _ (List.mem_cons_of_mem _ tw_275)) (fun _ h9 => h9) rfl (by decide +kernel) rfl rfl (Nat.le_of_ble_eq_true rfl) dX3_told_143 (fun H locs hP hD hS => ?_)
                        have hP : va_P (dC, dI) vwCl [(m0, .inr (3, [.ref mt, .ref mi, .ref mk, .ref mf, .ref ml, .int (iI ((tc : Int))), .int (iI ((n : Int))), .int (iI ((w : Int))), .int (iI ((ks : Int))), .int (iI (0)), .int (iI (p21))])), (mi, .inl (cB, 65536, .inl (f))), (mk, .inl (cB, 65536, .inl (kf))), (mf, .inl (cI, 1025, .inl (fun k => iI (fa k)))), (ml, .inl (cI, 1025, .inl (fun k => iI (la k))))] H := hP
                        have hD : va_D A [(m0, .inr (3, [.ref mt, .ref mi, .ref mk, .ref mf, .ref ml, .int (iI ((tc : Int))), .int (iI ((n : Int))), .int (iI ((w : Int))), .int (iI ((ks : Int))), .int (iI (0)), .int (iI (p21))])), (mi, .inl (cB, 65536, .inl (f))), (mk, .inl (cB, 65536, .inl (kf))), (mf, .inl (cI, 1025, .inl (fun k => iI (fa k)))), (ml, .inl (cI, 1025, .inl (fun k => iI (la k))))] := hD
                        refine lv_iload hx hb dX3_told_146 (lv_at hl 0 rfl) ?_
                        refine lv_iconst (v := iI (1)) hx hb dX3_told_148 rfl ?_
                        refine lx_icmp_ge (a := s22) (b := 1) (tgt := 154) hx hb dX3_told_149 (by decide) (by omega) (by omega) (fun cq25 => ?_) (fun cq25 => ?_)
                        · obtain ⟨x, hx1⟩ : ∃ x : Nat, Lm.2 = (x : Int) := ⟨Lm.2.toNat, by omega⟩
                          obtain ⟨z, hz1⟩ : ∃ z : Nat, Lm.1 = (z : Int) := ⟨Lm.1.toNat, by omega⟩
                          have hE : zEnd (bA f n) (Lm.2 + Lm.1) = Lm.2 + Lm.1 + 2 := by unfold zEnd; repeat (first | rw [if_pos (by omega)] | rw [if_neg (by omega)])
                          have gE := zEnd_rg f n (Lm.2 + Lm.1)
                          refine lv_aload_n hx hb dX3_told_154 rfl (lv_at hl 5 rfl) ?_
                          refine lv_iload_n hx hb dX3_told_155 rfl (lv_at hl 2 rfl) ?_
                          refine lx_top (x2 := iI (x : Int)) (congrArg iI (by omega)) ?_
                          refine lv_iload_n hx hb dX3_told_156 rfl (lv_at hl 3 rfl) ?_
                          refine lx_top (x2 := iI (z : Int)) (congrArg iI (by omega)) ?_
                          refine vx_Vv (As := [.int (iI ((x : Int))), .int (iI ((z : Int)))]) (rest := []) (wr := []) (ci := 3) (q0 := 0) [0, 1, 2, 3, 4] [] ⟨hx, hb, hml, hown, hts⟩ (c_X3_word l dC dI cB cI _ m0 mt mi mk mf ml tc n w ks (0) (p21) f kf fa la hn hfit hkf (by omega) x z (by omega) (by omega)) (cwV 2 hts (gd_V tw_346 tw_348 tw_16 tw_22 tw_349) rfl rfl rfl (by decide +kernel) ⟨Nat.le_of_ble_eq_true rfl, Nat.le_of_ble_eq_true rfl⟩) hK hP hD hS hA rfl rfl rfl rfl (by decide) rfl rfl rfl rfl hl.1 rfl (Nat.le_of_ble_eq_true rfl) dX3_told_157 ⟨Nat.zero_le _, Nat.zero_le _⟩ (fun u H locs hw hP hD hS => ?_)
                          obtain ⟨k1, rfl⟩ : ∃ z, z = u := ⟨_, rfl⟩
                          try dsimp only at hw hP hD
                          obtain ⟨hk1, hk2, hk3⟩ := hw
                          have hP : va_P (dC, dI) vwCl [(m0, .inr (3, [.ref mt, .ref mi, .ref mk, .ref mf, .ref ml, .int (iI ((tc : Int))), .int (iI ((n : Int))), .int (iI (((w + 1 : Nat) : Int))), .int (iI (((ks + z : Nat) : Int))), .int (iI (0)), .int (iI (p21))])), (mi, .inl (cB, 65536, .inl (f))), (mk, .inl (cB, 65536, .inl (k1))), (mf, .inl (cI, 1025, .inl (fun k => iI ((updZ fa w (ks : Int)) k)))), (ml, .inl (cI, 1025, .inl (fun k => iI ((updZ la w (z : Int)) k))))] H := hP.sub [0, 1, 2, 3, 4] rfl
                          have hD : va_D A [(m0, .inr (3, [.ref mt, .ref mi, .ref mk, .ref mf, .ref ml, .int (iI ((tc : Int))), .int (iI ((n : Int))), .int (iI (((w + 1 : Nat) : Int))), .int (iI (((ks + z : Nat) : Int))), .int (iI (0)), .int (iI (p21))])), (mi, .inl (cB, 65536, .inl (f))), (mk, .inl (cB, 65536, .inl (k1))), (mf, .inl (cI, 1025, .inl (fun k => iI ((updZ fa w (ks : Int)) k)))), (ml, .inl (cI, 1025, .inl (fun k => iI ((updZ la w (z : Int)) k))))] := hD.sub [0, 1, 2, 3, 4] (by decide) rfl
                          refine lv_iconst (v := iI (1)) hx hb dX3_told_160 rfl ?_
                          have hZ := zWord_4 (a := (bA f n)) (n := n) (fr := pa) hL (by omega) (by omega)
                          have eL : L = (Lm.2, Lm.1) := Prod.ext (by show L.1 = Lm.2; omega) (by show L.2 = Lm.1; omega)
                          rw [eL] at hZ
                          have hZ : (zWord (bA f n) n pa) = (Lm.2 + Lm.1 + 2, 0, (Lm.2, Lm.1)) := by rw [hZ]; show (zEnd (bA f n) (Lm.2 + Lm.1), (if zEnd (bA f n) (Lm.2 + Lm.1) = -2 then (4 : Int) else 0), (Lm.2, Lm.1)) = _; rw [hE, if_neg (by omega)]
                          exact W.zret (v := iI (1)) hx hb hr (by rfl) (fun t ht hW => ⟨⟨iI (1), (0, p21, w + 1, ks + z, k1, updZ fa w (ks : Int), updZ la w (z : Int)), rfl, ⟨by rw [hZ]; exact congrArg iI (if_pos (by show 0 ≤ Lm.2 + Lm.1 + 2; omega)).symm, by rw [hZ]; exact (if_neg (by show ¬ Lm.2 + Lm.1 + 2 = -2; omega)).symm, hk1, fun _ => ⟨by rw [hZ]; show p21 = Lm.2 + Lm.1 + 2; omega, rfl, x, z, by rw [hZ, hx1, hz1], rfl, rfl, rfl, hk2, hk3⟩⟩, by rw [ht]; exact hP, va_K.moved hW.alike hK, hD⟩, hS.F ht⟩) hS.2.2 dX3_told_161
                        · refine lv_iconst (v := iI (0)) hx hb dX3_told_152 rfl ?_
                          have hE : zEnd (bA f n) (Lm.2 + Lm.1) = -1 := by unfold zEnd; repeat (first | rw [if_pos (by omega)] | rw [if_neg (by omega)])
                          have hZ := zWord_4 (a := (bA f n)) (n := n) (fr := pa) hL (by omega) (by omega)
                          rw [show L.1 = Lm.2 by omega, show L.2 = Lm.1 by omega, hE] at hZ
                          exact W.zret (v := iI (0)) hx hb hr (by rfl) (fun t ht hW => ⟨⟨iI (0), (0, p21, w, ks, kf, fa, la), rfl, ⟨by rw [hZ]; rfl, by rw [hZ]; rfl, hkf, fun q => by rw [hZ] at q; exact absurd (show (0 : Int) ≤ -1 from q) (by decide)⟩, by rw [ht]; exact hP, va_K.moved hW.alike hK, hD⟩, hS.F ht⟩) hS.2.2 dX3_told_153
                      · refine lv_iconst (v := iI (4)) hx hb dX3_told_138 rfl ?_
                        refine lv_goto (tgt := 143) hx hb dX3_told_139 (by decide) ?_
                        refine va_put (D := (dC, dI)) (ci := 3) (v := .int (iI (4))) (ty := .int) (C := "RequestCutterModel") (T := TX3) (N := 11) hx hb hts (fun w h => List.mem_cons_of_mem _ (inX3 w h)) tyX3 tyX3_ok nmX3 hown hK hP hD hS 0 rfl rfl 9 (by decide) (hts _ (List.mem_cons_of_mem _ tw_275)) (fun _ h9 => h9) rfl (by decide +kernel) rfl rfl (Nat.le_of_ble_eq_true rfl) dX3_told_143 (fun H locs hP hD hS => ?_)
                        have hP : va_P (dC, dI) vwCl [(m0, .inr (3, [.ref mt, .ref mi, .ref mk, .ref mf, .ref ml, .int (iI ((tc : Int))), .int (iI ((n : Int))), .int (iI ((w : Int))), .int (iI ((ks : Int))), .int (iI (4)), .int (iI (p21))])), (mi, .inl (cB, 65536, .inl (f))), (mk, .inl (cB, 65536, .inl (kf))), (mf, .inl (cI, 1025, .inl (fun k => iI (fa k)))), (ml, .inl (cI, 1025, .inl (fun k => iI (la k))))] H := hP
                        have hD : va_D A [(m0, .inr (3, [.ref mt, .ref mi, .ref mk, .ref mf, .ref ml, .int (iI ((tc : Int))), .int (iI ((n : Int))), .int (iI ((w : Int))), .int (iI ((ks : Int))), .int (iI (4)), .int (iI (p21))])), (mi, .inl (cB, 65536, .inl (f))), (mk, .inl (cB, 65536, .inl (kf))), (mf, .inl (cI, 1025, .inl (fun k => iI (fa k)))), (ml, .inl (cI, 1025, .inl (fun k => iI (la k))))] := hD
                        refine lv_iload hx hb dX3_told_146 (lv_at hl 0 rfl) ?_
                        refine lv_iconst (v := iI (1)) hx hb dX3_told_148 rfl ?_
                        refine lx_icmp_ge (a := s22) (b := 1) (tgt := 154) hx hb dX3_told_149 (by decide) (by omega) (by omega) (fun cq26 => ?_) (fun cq26 => ?_)
                        · exact absurd cq26 (by omega)
                        · refine lv_iconst (v := iI (0)) hx hb dX3_told_152 rfl ?_
                          have hE : zEnd (bA f n) (Lm.2 + Lm.1) = -2 := by unfold zEnd; repeat (first | rw [if_pos (by omega)] | rw [if_neg (by omega)])
                          have hZ := zWord_4 (a := (bA f n)) (n := n) (fr := pa) hL (by omega) (by omega)
                          rw [show L.1 = Lm.2 by omega, show L.2 = Lm.1 by omega, hE] at hZ
                          exact W.zret (v := iI (0)) hx hb hr (by rfl) (fun t ht hW => ⟨⟨iI (0), (4, p21, w, ks, kf, fa, la), rfl, ⟨by rw [hZ]; rfl, by rw [hZ]; rfl, hkf, fun q => by rw [hZ] at q; exact absurd (show (0 : Int) ≤ -2 from q) (by decide)⟩, by rw [ht]; exact hP, va_K.moved hW.alike hK, hD⟩, hS.F ht⟩) hS.2.2 dX3_told_153
                · exact absurd cq13 (by omega)
            · refine lv_iconst (v := iI (3)) hx hb dX3_told_66 rfl ?_
              refine lv_goto (tgt := 71) hx hb dX3_told_67 (by decide) ?_
              refine va_put (D := (dC, dI)) (ci := 3) (v := .int (iI (3))) (ty := .int) (C := "RequestCutterModel") (T := TX3) (N := 11) hx hb hts (fun w h => List.mem_cons_of_mem _ (inX3 w h)) tyX3 tyX3_ok nmX3 hown hK hP hD hS 0 rfl rfl 9 (by decide) (hts _ (List.mem_cons_of_mem _ tw_275)) (fun _ h9 => h9) rfl (by decide +kernel) rfl rfl (Nat.le_of_ble_eq_true rfl) dX3_told_71 (fun H locs hP hD hS => ?_)
              have hP : va_P (dC, dI) vwCl [(m0, .inr (3, [.ref mt, .ref mi, .ref mk, .ref mf, .ref ml, .int (iI ((tc : Int))), .int (iI ((n : Int))), .int (iI ((w : Int))), .int (iI ((ks : Int))), .int (iI (3)), .int (iI (Lm.2))])), (mi, .inl (cB, 65536, .inl (f))), (mk, .inl (cB, 65536, .inl (kf))), (mf, .inl (cI, 1025, .inl (fun k => iI (fa k)))), (ml, .inl (cI, 1025, .inl (fun k => iI (la k))))] H := hP
              have hD : va_D A [(m0, .inr (3, [.ref mt, .ref mi, .ref mk, .ref mf, .ref ml, .int (iI ((tc : Int))), .int (iI ((n : Int))), .int (iI ((w : Int))), .int (iI ((ks : Int))), .int (iI (3)), .int (iI (Lm.2))])), (mi, .inl (cB, 65536, .inl (f))), (mk, .inl (cB, 65536, .inl (kf))), (mf, .inl (cI, 1025, .inl (fun k => iI (fa k)))), (ml, .inl (cI, 1025, .inl (fun k => iI (la k))))] := hD
              refine lv_iload_n hx hb dX3_told_74 rfl (lv_at hl 0 rfl) ?_
              refine lx_if_lt (a := Lm.1) (tgt := 85) hx hb dX3_told_75 (by decide) (by omega) (fun cq27 => ?_) (fun cq27 => ?_)
              · exact absurd cq27 (by omega)
              · refine lv_aload_n hx hb dX3_told_78 rfl (lv_at hl 2 rfl) ?_
                refine va_get (D := (dC, dI)) (ci := 3) (v := .int (iI (3))) (C := "RequestCutterModel") (T := TX3) (N := 11) hx hb hts (fun w h => List.mem_cons_of_mem _ (inX3 w h)) hown hK hP 0 rfl rfl 9 (by decide) (hts _ (List.mem_cons_of_mem _ tw_275)) (fun _ h9 => h9) rfl dX3_told_79 ?_
                refine lx_if_le (a := 3) (tgt := 87) hx hb dX3_told_82 (by decide) (by omega) (fun cq28 => ?_) (fun cq28 => ?_)
                · exact absurd cq28 (by omega)
                · refine lv_iconst (v := iI (0)) hx hb dX3_told_85 rfl ?_
                  have hZ := zWord_3 (a := (bA f n)) (n := n) (fr := pa) hL (by omega) (by omega)
                  have e1 : L.1 = -2 := by omega
                  rw [e1] at hZ
                  exact W.zret (v := iI (0)) hx hb hr (by rfl) (fun t ht hW => ⟨⟨iI (0), (3, Lm.2, w, ks, kf, fa, la), rfl, ⟨by rw [hZ]; rfl, by rw [hZ]; rfl, hkf, fun q => by rw [hZ] at q; exact absurd q (by decide)⟩, by rw [ht]; exact hP, va_K.moved hW.alike hK, hD⟩, hS.F ht⟩) hS.2.2 dX3_told_86
    · refine lv_iconst (v := iI (0)) hx hb dX3_told_25 rfl ?_
      have hZ := zWord_1 (a := (bA f n)) (n := n) (fr := pa) (by omega)
      exact W.zret (v := iI (0)) hx hb hr (by rfl) (fun t ht hW => ⟨⟨iI (0), (0, p1, w, ks, kf, fa, la), rfl, ⟨by rw [hZ]; rfl, by rw [hZ]; rfl, hkf, fun q => by rw [hZ] at q; exact absurd q (by decide)⟩, by rw [ht]; exact hP, va_K.moved hW.alike hK, hD⟩, hS.F ht⟩) hS.2.2 dX3_told_26
  · refine lv_iconst (v := iI (2)) hx hb dX3_told_12 rfl ?_
    refine lv_goto (tgt := 17) hx hb dX3_told_13 (by decide) ?_
    refine va_put (D := (dC, dI)) (ci := 3) (v := .int (iI (2))) (ty := .int) (C := "RequestCutterModel") (T := TX3) (N := 11) hx hb hts (fun w h => List.mem_cons_of_mem _ (inX3 w h)) tyX3 tyX3_ok nmX3 hown hK hP hD hS 0 rfl rfl 9 (by decide) (hts _ (List.mem_cons_of_mem _ tw_275)) (fun _ h9 => h9) rfl (by decide +kernel) rfl rfl (Nat.le_of_ble_eq_true rfl) dX3_told_17 (fun H locs hP hD hS => ?_)
    have hP : va_P (dC, dI) vwCl [(m0, .inr (3, [.ref mt, .ref mi, .ref mk, .ref mf, .ref ml, .int (iI ((tc : Int))), .int (iI ((n : Int))), .int (iI ((w : Int))), .int (iI ((ks : Int))), .int (iI (2)), .int (iI (p1))])), (mi, .inl (cB, 65536, .inl (f))), (mk, .inl (cB, 65536, .inl (kf))), (mf, .inl (cI, 1025, .inl (fun k => iI (fa k)))), (ml, .inl (cI, 1025, .inl (fun k => iI (la k))))] H := hP
    have hD : va_D A [(m0, .inr (3, [.ref mt, .ref mi, .ref mk, .ref mf, .ref ml, .int (iI ((tc : Int))), .int (iI ((n : Int))), .int (iI ((w : Int))), .int (iI ((ks : Int))), .int (iI (2)), .int (iI (p1))])), (mi, .inl (cB, 65536, .inl (f))), (mk, .inl (cB, 65536, .inl (kf))), (mf, .inl (cI, 1025, .inl (fun k => iI (fa k)))), (ml, .inl (cI, 1025, .inl (fun k => iI (la k))))] := hD
    refine lv_iload_n hx hb dX3_told_20 rfl (lv_at hl 0 rfl) ?_
    refine lv_iconst (v := iI (1)) hx hb dX3_told_21 rfl ?_
    refine lx_icmp_ge (a := s2) (b := 1) (tgt := 27) hx hb dX3_told_22 (by decide) (by omega) (by omega) (fun cq29 => ?_) (fun cq29 => ?_)
    · exact absurd cq29 (by omega)
    · refine lv_iconst (v := iI (0)) hx hb dX3_told_25 rfl ?_
      have hZ := zWord_2 (a := (bA f n)) (n := n) (fr := pa) (by omega) (by omega)
      exact W.zret (v := iI (0)) hx hb hr (by rfl) (fun t ht hW => ⟨⟨iI (0), (2, p1, w, ks, kf, fa, la), rfl, ⟨by rw [hZ]; rfl, by rw [hZ]; rfl, hkf, fun q => by rw [hZ] at q; exact absurd q (by decide)⟩, by rw [ht]; exact hP, va_K.moved hW.alike hK, hD⟩, hS.F ht⟩) hS.2.2 dX3_told_26
