set_option maxHeartbeats 4000000 in
set_option maxRecDepth 100000 in
/-- go(n) -/
theorem c_X3_go (l : Launch) (dC : Nat → ClassId) (dI : Nat → Nat → Nat) (cB cI : ClassId) (sz : Nat) (m0 mt mi mk mf ml tc n w ks : Nat) (ft pa : Int) (f : Nat → Int32) (hn : n ≤ 65536) (hfit : sb_Fit f) (x : Nat) (hx0 : x ≤ n) : Met l yX3_go wX3_go ({ frames := 0, cells := 0, slots := 0, locals := 0 }) (va_Pc [.ref m0, .int (iI ((x : Int)))] (vx_B (dC, dI) vwCl [(cB, .byte), (cI, .int)] [(m0, .inr (3, [.ref mt, .ref mi, .ref mk, .ref mf, .ref ml, .int (iI ((tc : Int))), .int (iI ((n : Int))), .int (iI ((w : Int))), .int (iI ((ks : Int))), .int (iI (ft)), .int (iI (pa))])), (mi, .inl (cB, 65536, .inl (f)))] sz)) (va_Qv (fun (u : Nat → Int32) => sb_Fit u ∧ ∀ j, j < n - x → u j = f (x + j)) (fun (u : Nat → Int32) => vx_E (dC, dI) vwCl [(cB, .byte), (cI, .int)] (va_A [(m0, .inr (3, [.ref mt, .ref mi, .ref mk, .ref mf, .ref ml, .int (iI ((tc : Int))), .int (iI ((n : Int))), .int (iI ((w : Int))), .int (iI ((ks : Int))), .int (iI (ft)), .int (iI (pa))])), (mi, .inl (cB, 65536, .inl (f)))] sz) [(m0, .inr (3, [.ref mt, .ref mi, .ref mk, .ref mf, .ref ml, .int (iI ((tc : Int))), .int (iI (((n - x : Nat) : Int))), .int (iI ((w : Int))), .int (iI ((ks : Int))), .int (iI (ft)), .int (iI (pa))])), (mi, .inl (cB, 65536, .inl (u)))]) (va_A [(m0, .inr (3, [.ref mt, .ref mi, .ref mk, .ref mf, .ref ml, .int (iI ((tc : Int))), .int (iI ((n : Int))), .int (iI ((w : Int))), .int (iI ((ks : Int))), .int (iI (ft)), .int (iI (pa))])), (mi, .inl (cB, 65536, .inl (f)))] sz)) (0) (0) (va_A [(m0, .inr (3, [.ref mt, .ref mi, .ref mk, .ref mf, .ref ml, .int (iI ((tc : Int))), .int (iI ((n : Int))), .int (iI ((w : Int))), .int (iI ((ks : Int))), .int (iI (ft)), .int (iI (pa))])), (mi, .inl (cB, 65536, .inl (f)))] sz) := by
  refine Met.ofW (cc := cX3_go) (maxL := 3) (ret := none) (by decide) rfl ?_
  intro p e s m args below meth c s₁ B hml hv
  obtain ⟨rfl, hsz, hP, hK, hD0⟩ := hv
  have hx := B.exec
  have hb := B.bytes
  have hr := B.returns
  have hts := atoms_spec (ws := wX3_go) B.pre
  have hown : s.vm.findClass "RequestCutterModel" = some m.cls := findClass_of_methodNamed B.named
  have hlocks := B.notSynchronized
  subst hsz
  have hD := hD0.self (sz := s.heap.size)
  generalize hAe : va_A [(m0, .inr (3, [.ref mt, .ref mi, .ref mk, .ref mf, .ref ml, .int (iI ((tc : Int))), .int (iI ((n : Int))), .int (iI ((w : Int))), .int (iI ((ks : Int))), .int (iI (ft)), .int (iI (pa))])), (mi, .inl (cB, 65536, .inl (f)))] s.heap.size = A at hD ⊢
  have hA : ∀ q : Nat, s.heap.size ≤ q → A q := fun q h => by rw [← hAe]; exact Or.inr h
  have hS : va_S A s.heap s.heap [] := va_S.rf
  have hP : va_P (dC, dI) vwCl [(m0, .inr (3, [.ref mt, .ref mi, .ref mk, .ref mf, .ref ml, .int (iI ((tc : Int))), .int (iI ((n : Int))), .int (iI ((w : Int))), .int (iI ((ks : Int))), .int (iI (ft)), .int (iI (pa))])), (mi, .inl (cB, 65536, .inl (f)))] s.heap := hP
  have hl := lv_entry ([.ref m0, .int (iI ((x : Int)))]) (n := 3) (Nat.le_of_ble_eq_true rfl)
  rw [lg_entry_eq]
  generalize (lg_sl ([.ref m0, .int (iI ((x : Int)))]) ++ List.replicate (3 - (lg_sl ([.ref m0, .int (iI ((x : Int)))])).length) Slot.unset).toArray = ls at hl ⊢
  have hl : lv_has ls 3 [(0, .ref m0), (1, .int (iI ((x : Int))))] := hl
  refine lv_iload_n hx hb dX3_go_0 rfl (lv_at hl 1 rfl) ?_
  refine lv_istore_n (lv' := [(2, .int (iI ((x : Int)))), (0, .ref m0), (1, .int (iI ((x : Int))))]) hx hb dX3_go_1 rfl hl (by decide) rfl (fun ls hl => ?_)
  refine (?_ : ∀ (k : Nat) (i : Nat) (g : Nat → Int32) (H : Heap) (locs : List Loc) (ls : Array Slot), i + k = n → x ≤ i → sb_Fit g → (∀ j, j < i - x → g j = f (x + j)) → (∀ j, i ≤ j → g j = f j) → va_P (dC, dI) vwCl [(m0, .inr (3, [.ref mt, .ref mi, .ref mk, .ref mf, .ref ml, .int (iI ((tc : Int))), .int (iI ((n : Int))), .int (iI ((w : Int))), .int (iI ((ks : Int))), .int (iI (ft)), .int (iI (pa))])), (mi, .inl (cB, 65536, .inl (g)))] H → va_D A [(m0, .inr (3, [.ref mt, .ref mi, .ref mk, .ref mf, .ref ml, .int (iI ((tc : Int))), .int (iI ((n : Int))), .int (iI ((w : Int))), .int (iI ((ks : Int))), .int (iI (ft)), .int (iI (pa))])), (mi, .inl (cB, 65536, .inl (g)))] → va_S A s.heap H locs → lv_has ls 3 [(2, .int (iI ((i : Int)))), (0, .ref m0), (1, .int (iI ((x : Int))))] → W p l e _ s m _ below meth c H locs _ _ _ (F0 m 2 ls [])) (n - x) (x) (f) _ _ ls (by omega) (Nat.le_refl _) (hfit) (fun j hj => by omega) (fun _ _ => rfl) (hP.sub [0, 1] rfl) (hD.sub [0, 1] (by decide) rfl) hS (lv_sub hl [0, 1, 2] rfl)
  intro k
  induction k with
  | zero =>
    intro i g H locs ls hk hix hg hg1 hg2 hP hD hS hl
    refine lv_iload_n hx hb dX3_go_2 rfl (lv_at hl 0 rfl) ?_
    refine lv_aload_n hx hb dX3_go_3 rfl (lv_at hl 1 rfl) ?_
    refine va_get (D := (dC, dI)) (ci := 3) (v := .int (iI ((n : Int)))) (C := "RequestCutterModel") (T := TX3) (N := 11) hx hb hts (fun w h => List.mem_cons_of_mem _ (inX3 w h)) hown hK hP 0 rfl rfl 6 (by decide) (hts _ (List.mem_cons_of_mem _ tw_272)) (fun _ h9 => h9) rfl dX3_go_4 ?_
    refine lx_icmp_ge (a := (i : Int)) (b := (n : Int)) (tgt := 30) hx hb dX3_go_7 (by decide) (by omega) (by omega) (fun cq1 => ?_) (fun cq1 => ?_)
    · refine lv_aload_n hx hb dX3_go_30 rfl (lv_at hl 1 rfl) ?_
      refine lv_dup hx hb dX3_go_31 rfl ?_
      refine va_get (D := (dC, dI)) (ci := 3) (v := .int (iI ((n : Int)))) (C := "RequestCutterModel") (T := TX3) (N := 11) hx hb hts (fun w h => List.mem_cons_of_mem _ (inX3 w h)) hown hK hP 0 rfl rfl 6 (by decide) (hts _ (List.mem_cons_of_mem _ tw_272)) (fun _ h9 => h9) rfl dX3_go_32 ?_
      refine lv_iload_n hx hb dX3_go_35 rfl (lv_at hl 2 rfl) ?_
      refine lx_isub (a := (n : Int)) (b := (x : Int)) hx hb dX3_go_36 ?_
      refine lx_top (x2 := iI ((n - x : Nat) : Int)) (congrArg iI (by omega)) ?_
      refine va_put (D := (dC, dI)) (ci := 3) (v := .int (iI (((n - x : Nat) : Int)))) (ty := .int) (C := "RequestCutterModel") (T := TX3) (N := 11) hx hb hts (fun w h => List.mem_cons_of_mem _ (inX3 w h)) tyX3 tyX3_ok nmX3 hown hK hP hD hS 0 rfl rfl 6 (by decide) (hts _ (List.mem_cons_of_mem _ tw_272)) (fun _ h9 => h9) rfl (by decide +kernel) rfl rfl (Nat.le_of_ble_eq_true rfl) dX3_go_37 (fun H locs hP hD hS => ?_)
      have hP : va_P (dC, dI) vwCl [(m0, .inr (3, [.ref mt, .ref mi, .ref mk, .ref mf, .ref ml, .int (iI ((tc : Int))), .int (iI (((n - x : Nat) : Int))), .int (iI ((w : Int))), .int (iI ((ks : Int))), .int (iI (ft)), .int (iI (pa))])), (mi, .inl (cB, 65536, .inl (g)))] H := hP
      have hD : va_D A [(m0, .inr (3, [.ref mt, .ref mi, .ref mk, .ref mf, .ref ml, .int (iI ((tc : Int))), .int (iI (((n - x : Nat) : Int))), .int (iI ((w : Int))), .int (iI ((ks : Int))), .int (iI (ft)), .int (iI (pa))])), (mi, .inl (cB, 65536, .inl (g)))] := hD
      exact W.vret hx hb hr (fun t ht hW => ⟨⟨g, rfl, ⟨hg, fun j hj => hg1 j (by omega)⟩, by rw [ht]; exact hP, va_K.moved hW.alike hK, hD⟩, hS.F ht⟩) hS.2.2 dX3_go_40
    · exact absurd cq1 (by omega)
  | succ k ih =>
    intro i g H locs ls hk hix hg hg1 hg2 hP hD hS hl
    refine lv_iload_n hx hb dX3_go_2 rfl (lv_at hl 0 rfl) ?_
    refine lv_aload_n hx hb dX3_go_3 rfl (lv_at hl 1 rfl) ?_
    refine va_get (D := (dC, dI)) (ci := 3) (v := .int (iI ((n : Int)))) (C := "RequestCutterModel") (T := TX3) (N := 11) hx hb hts (fun w h => List.mem_cons_of_mem _ (inX3 w h)) hown hK hP 0 rfl rfl 6 (by decide) (hts _ (List.mem_cons_of_mem _ tw_272)) (fun _ h9 => h9) rfl dX3_go_4 ?_
    refine lx_icmp_ge (a := (i : Int)) (b := (n : Int)) (tgt := 30) hx hb dX3_go_7 (by decide) (by omega) (by omega) (fun cq2 => ?_) (fun cq2 => ?_)
    · exact absurd cq2 (by omega)
    · refine lv_aload_n hx hb dX3_go_10 rfl (lv_at hl 1 rfl) ?_
      refine va_get (D := (dC, dI)) (ci := 3) (v := .ref mi) (C := "RequestCutterModel") (T := TX3) (N := 11) hx hb hts (fun w h => List.mem_cons_of_mem _ (inX3 w h)) hown hK hP 0 rfl rfl 1 (by decide) (hts _ (List.mem_cons_of_mem _ tw_267)) (fun _ h9 => h9) rfl dX3_go_11 ?_
      refine lv_iload_n hx hb dX3_go_14 rfl (lv_at hl 0 rfl) ?_
      refine lv_iload_n hx hb dX3_go_15 rfl (lv_at hl 2 rfl) ?_
      refine lx_isub (a := (i : Int)) (b := (x : Int)) hx hb dX3_go_16 ?_
      refine lv_aload_n hx hb dX3_go_17 rfl (lv_at hl 1 rfl) ?_
      refine va_get (D := (dC, dI)) (ci := 3) (v := .ref mi) (C := "RequestCutterModel") (T := TX3) (N := 11) hx hb hts (fun w h => List.mem_cons_of_mem _ (inX3 w h)) hown hK hP 0 rfl rfl 1 (by decide) (hts _ (List.mem_cons_of_mem _ tw_267)) (fun _ h9 => h9) rfl dX3_go_18 ?_
      refine lv_iload_n hx hb dX3_go_21 rfl (lv_at hl 0 rfl) ?_
      refine va_bald hx hb hK hP 1 0 rfl rfl (iI_in (by omega)) dX3_go_22 ?_
      refine lx_top (x2 := (g) (i)) (congrArg (g) (iI_clN (n := i) (by omega))) ?_
      refine lx_bast (x := (g) (i)) (v := g i) (i := ((i : Int)) - ((x : Int))) hx hb hK hP hD hS 1 0 rfl rfl (i - x) (by omega) (by omega) (nar_fit (hg _)) dX3_go_23 (fun H locs hP hD hS => ?_)
      have hP : va_P (dC, dI) vwCl [(m0, .inr (3, [.ref mt, .ref mi, .ref mk, .ref mf, .ref ml, .int (iI ((tc : Int))), .int (iI ((n : Int))), .int (iI ((w : Int))), .int (iI ((ks : Int))), .int (iI (ft)), .int (iI (pa))])), (mi, .inl (cB, 65536, .inl (upd (g) (i - x) (g i))))] H := hP
      have hD : va_D A [(m0, .inr (3, [.ref mt, .ref mi, .ref mk, .ref mf, .ref ml, .int (iI ((tc : Int))), .int (iI ((n : Int))), .int (iI ((w : Int))), .int (iI ((ks : Int))), .int (iI (ft)), .int (iI (pa))])), (mi, .inl (cB, 65536, .inl (upd (g) (i - x) (g i))))] := hD
      refine lv_iinc (v := iI ((i : Int) + 1)) (lv' := [(2, .int (iI ((i : Int) + 1))), (0, .ref m0), (1, .int (iI ((x : Int))))]) hx hb dX3_go_24 hl (k := 0) rfl (iI_add _ _) (by decide) rfl (fun ls hl => ?_)
      refine lv_goto (tgt := 2) hx hb dX3_go_27 (by decide) ?_
      exact ih (i + 1) (upd g (i - x) (g i)) _ _ ls (by omega) (by omega) (sb_fitU hg (hg _)) (fun j hj => by simp only [upd]; by_cases q : j = i - x; rw [q, if_pos rfl, hg2 i (by omega), show x + (i - x) = i by omega]; rw [if_neg q]; exact hg1 j (by omega)) (fun j hj => by simp only [upd]; rw [if_neg (by omega)]; exact hg2 j (by omega)) (hP.sub [0, 1] rfl) (hD.sub [0, 1] (by decide) rfl) hS (lv_sub hl [0, 1, 2] rfl)
set_option maxHeartbeats 4000000 in
set_option maxRecDepth 100000 in
/-- drop(n) -/
theorem c_X3_drop (l : Launch) (dC : Nat → ClassId) (dI : Nat → Nat → Nat) (cB cI : ClassId) (sz : Nat) (m0 mt mi mk mf ml tc n w ks : Nat) (ft pa : Int) (f : Nat → Int32) (hn : n ≤ 65536) (hfit : sb_Fit f) (i : Int) (hi : -2147483648 ≤ i ∧ i ≤ 2147483647) : Met l yX3_drop wX3_drop ({ frames := 1, cells := 0, slots := 0, locals := 22 }) (va_Pc [.ref m0, .int (iI (i))] (vx_B (dC, dI) vwCl [(cB, .byte), (cI, .int)] [(m0, .inr (3, [.ref mt, .ref mi, .ref mk, .ref mf, .ref ml, .int (iI ((tc : Int))), .int (iI ((n : Int))), .int (iI ((w : Int))), .int (iI ((ks : Int))), .int (iI (ft)), .int (iI (pa))])), (mi, .inl (cB, 65536, .inl (f)))] sz)) (va_Qi (fun (r : Int32) (u : (Nat → Int32) × Nat) => r = iI (if 0 ≤ i ∧ i ≤ (n : Int) then 1 else 0) ∧ sb_Fit u.1 ∧ (0 ≤ i ∧ i ≤ (n : Int) → u.2 = n - i.toNat ∧ ∀ j, j < n - i.toNat → u.1 j = f (i.toNat + j)) ∧ (¬ (0 ≤ i ∧ i ≤ (n : Int)) → u = (f, n))) (fun (u : (Nat → Int32) × Nat) => vx_E (dC, dI) vwCl [(cB, .byte), (cI, .int)] (va_A [(m0, .inr (3, [.ref mt, .ref mi, .ref mk, .ref mf, .ref ml, .int (iI ((tc : Int))), .int (iI ((n : Int))), .int (iI ((w : Int))), .int (iI ((ks : Int))), .int (iI (ft)), .int (iI (pa))])), (mi, .inl (cB, 65536, .inl (f)))] sz) [(m0, .inr (3, [.ref mt, .ref mi, .ref mk, .ref mf, .ref ml, .int (iI ((tc : Int))), .int (iI ((u.2 : Int))), .int (iI ((w : Int))), .int (iI ((ks : Int))), .int (iI (ft)), .int (iI (pa))])), (mi, .inl (cB, 65536, .inl (u.1)))]) (va_A [(m0, .inr (3, [.ref mt, .ref mi, .ref mk, .ref mf, .ref ml, .int (iI ((tc : Int))), .int (iI ((n : Int))), .int (iI ((w : Int))), .int (iI ((ks : Int))), .int (iI (ft)), .int (iI (pa))])), (mi, .inl (cB, 65536, .inl (f)))] sz)) (0) (0) (va_A [(m0, .inr (3, [.ref mt, .ref mi, .ref mk, .ref mf, .ref ml, .int (iI ((tc : Int))), .int (iI ((n : Int))), .int (iI ((w : Int))), .int (iI ((ks : Int))), .int (iI (ft)), .int (iI (pa))])), (mi, .inl (cB, 65536, .inl (f)))] sz) := by
  refine Met.ofW (cc := cX3_drop) (maxL := 2) (ret := (some .boolean)) (by decide) rfl ?_
  intro p e s m args below meth c s₁ B hml hv
  obtain ⟨rfl, hsz, hP, hK, hD0⟩ := hv
  have hx := B.exec
  have hb := B.bytes
  have hr := B.returns
  have hts := atoms_spec (ws := wX3_drop) B.pre
  have hown : s.vm.findClass "RequestCutterModel" = some m.cls := findClass_of_methodNamed B.named
  have hlocks := B.notSynchronized
  subst hsz
  have hD := hD0.self (sz := s.heap.size)
  generalize hAe : va_A [(m0, .inr (3, [.ref mt, .ref mi, .ref mk, .ref mf, .ref ml, .int (iI ((tc : Int))), .int (iI ((n : Int))), .int (iI ((w : Int))), .int (iI ((ks : Int))), .int (iI (ft)), .int (iI (pa))])), (mi, .inl (cB, 65536, .inl (f)))] s.heap.size = A at hD ⊢
  have hA : ∀ q : Nat, s.heap.size ≤ q → A q := fun q h => by rw [← hAe]; exact Or.inr h
  have hS : va_S A s.heap s.heap [] := va_S.rf
  have hP : va_P (dC, dI) vwCl [(m0, .inr (3, [.ref mt, .ref mi, .ref mk, .ref mf, .ref ml, .int (iI ((tc : Int))), .int (iI ((n : Int))), .int (iI ((w : Int))), .int (iI ((ks : Int))), .int (iI (ft)), .int (iI (pa))])), (mi, .inl (cB, 65536, .inl (f)))] s.heap := hP
  have hl := lv_entry ([.ref m0, .int (iI (i))]) (n := 2) (Nat.le_of_ble_eq_true rfl)
  rw [lg_entry_eq]
  generalize (lg_sl ([.ref m0, .int (iI (i))]) ++ List.replicate (2 - (lg_sl ([.ref m0, .int (iI (i))])).length) Slot.unset).toArray = ls at hl ⊢
  have hl : lv_has ls 2 [(0, .ref m0), (1, .int (iI (i)))] := hl
  refine lv_iload_n hx hb dX3_drop_0 rfl (lv_at hl 1 rfl) ?_
  refine lx_if_lt (a := i) (tgt := 12) hx hb dX3_drop_1 (by decide) (by omega) (fun cq1 => ?_) (fun cq1 => ?_)
  · refine lv_iconst (v := iI (0)) hx hb dX3_drop_12 rfl ?_
    exact W.zret (v := iI (0)) hx hb hr (by rfl) (fun t ht hW => ⟨⟨iI (0), (f, n), rfl, ⟨by rw [if_neg (by omega)], hfit, fun z => by omega, fun _ => rfl⟩, by rw [ht]; exact hP, va_K.moved hW.alike hK, hD⟩, hS.F ht⟩) hS.2.2 dX3_drop_13
  · refine lv_iload_n hx hb dX3_drop_4 rfl (lv_at hl 1 rfl) ?_
    refine lv_aload_n hx hb dX3_drop_5 rfl (lv_at hl 0 rfl) ?_
    refine va_get (D := (dC, dI)) (ci := 3) (v := .int (iI ((n : Int)))) (C := "RequestCutterModel") (T := TX3) (N := 11) hx hb hts (fun w h => List.mem_cons_of_mem _ (inX3 w h)) hown hK hP 0 rfl rfl 6 (by decide) (hts _ (List.mem_cons_of_mem _ tw_272)) (fun _ h9 => h9) rfl dX3_drop_6 ?_
    refine lx_icmp_le (a := i) (b := (n : Int)) (tgt := 14) hx hb dX3_drop_9 (by decide) (by omega) (by omega) (fun cq2 => ?_) (fun cq2 => ?_)
    · refine lv_aload_n hx hb dX3_drop_14 rfl (lv_at hl 0 rfl) ?_
      refine lv_iload_n hx hb dX3_drop_15 rfl (lv_at hl 1 rfl) ?_
      refine lx_top (x2 := iI (i.toNat : Int)) (congrArg iI (by omega)) ?_
      refine vx_Vv (As := [.int (iI ((i.toNat : Int)))]) (rest := []) (wr := []) (ci := 3) (q0 := 0) [0, 1] [] ⟨hx, hb, hml, hown, hts⟩ (c_X3_go l dC dI cB cI _ m0 mt mi mk mf ml tc n w ks ft pa f hn hfit i.toNat (by omega)) (cwV 1 hts (gd_V tw_320 tw_322 tw_11 tw_22 tw_323) rfl rfl rfl (by decide +kernel) ⟨Nat.le_of_ble_eq_true rfl, Nat.le_of_ble_eq_true rfl⟩) hK hP hD hS hA rfl rfl rfl rfl (by decide) rfl rfl rfl rfl hl.1 rfl (Nat.le_of_ble_eq_true rfl) dX3_drop_16 ⟨Nat.zero_le _, Nat.zero_le _⟩ (fun u H locs hw hP hD hS => ?_)
      obtain ⟨g, rfl⟩ : ∃ z, z = u := ⟨_, rfl⟩
      try dsimp only at hw hP hD
      obtain ⟨hg, hg1⟩ := hw
      have hP : va_P (dC, dI) vwCl [(m0, .inr (3, [.ref mt, .ref mi, .ref mk, .ref mf, .ref ml, .int (iI ((tc : Int))), .int (iI (((n - i.toNat : Nat) : Int))), .int (iI ((w : Int))), .int (iI ((ks : Int))), .int (iI (ft)), .int (iI (pa))])), (mi, .inl (cB, 65536, .inl (g)))] H := hP.sub [0, 1] rfl
      have hD : va_D A [(m0, .inr (3, [.ref mt, .ref mi, .ref mk, .ref mf, .ref ml, .int (iI ((tc : Int))), .int (iI (((n - i.toNat : Nat) : Int))), .int (iI ((w : Int))), .int (iI ((ks : Int))), .int (iI (ft)), .int (iI (pa))])), (mi, .inl (cB, 65536, .inl (g)))] := hD.sub [0, 1] (by decide) rfl
      refine lv_iconst (v := iI (1)) hx hb dX3_drop_19 rfl ?_
      exact W.zret (v := iI (1)) hx hb hr (by rfl) (fun t ht hW => ⟨⟨iI (1), (g, n - i.toNat), rfl, ⟨by rw [if_pos (by omega)], hg, fun _ => ⟨rfl, hg1⟩, fun z => by omega⟩, by rw [ht]; exact hP, va_K.moved hW.alike hK, hD⟩, hS.F ht⟩) hS.2.2 dX3_drop_20
    · refine lv_iconst (v := iI (0)) hx hb dX3_drop_12 rfl ?_
      exact W.zret (v := iI (0)) hx hb hr (by rfl) (fun t ht hW => ⟨⟨iI (0), (f, n), rfl, ⟨by rw [if_neg (by omega)], hfit, fun z => by omega, fun _ => rfl⟩, by rw [ht]; exact hP, va_K.moved hW.alike hK, hD⟩, hS.F ht⟩) hS.2.2 dX3_drop_13
set_option maxHeartbeats 4000000 in
set_option maxRecDepth 100000 in
/-- must(c) -/
theorem c_X3_must (l : Launch) (dC : Nat → ClassId) (dI : Nat → Nat → Nat) (cB cI : ClassId) (sz : Nat) (m0 mt mi mk mf ml tc n w ks : Nat) (ft pa : Int) (f : Nat → Int32) (hn : n ≤ 65536) (hfit : sb_Fit f) (hpa : 0 ≤ pa ∧ pa ≤ 200000) (x : Int) (hxr : 0 ≤ x ∧ x ≤ 127) : Met l yX3_must wX3_must ({ frames := 0, cells := 0, slots := 0, locals := 0 }) (va_Pc [.ref m0, .int (iI (x))] (vx_B (dC, dI) vwCl [(cB, .byte), (cI, .int)] [(m0, .inr (3, [.ref mt, .ref mi, .ref mk, .ref mf, .ref ml, .int (iI ((tc : Int))), .int (iI ((n : Int))), .int (iI ((w : Int))), .int (iI ((ks : Int))), .int (iI (ft)), .int (iI (pa))])), (mi, .inl (cB, 65536, .inl (f)))] sz)) (va_Qi (fun (r : Int32) (u : Int) => r = iI (if (n : Int) ≤ pa then 0 else if bA f n pa = x then 1 else -1) ∧ u = (if (n : Int) ≤ pa then pa else pa + 1)) (fun (u : Int) => vx_E (dC, dI) vwCl [(cB, .byte), (cI, .int)] (va_A [(m0, .inr (3, [.ref mt, .ref mi, .ref mk, .ref mf, .ref ml, .int (iI ((tc : Int))), .int (iI ((n : Int))), .int (iI ((w : Int))), .int (iI ((ks : Int))), .int (iI (ft)), .int (iI (pa))])), (mi, .inl (cB, 65536, .inl (f)))] sz) [(m0, .inr (3, [.ref mt, .ref mi, .ref mk, .ref mf, .ref ml, .int (iI ((tc : Int))), .int (iI ((n : Int))), .int (iI ((w : Int))), .int (iI ((ks : Int))), .int (iI (ft)), .int (iI (u))])), (mi, .inl (cB, 65536, .inl (f)))]) (va_A [(m0, .inr (3, [.ref mt, .ref mi, .ref mk, .ref mf, .ref ml, .int (iI ((tc : Int))), .int (iI ((n : Int))), .int (iI ((w : Int))), .int (iI ((ks : Int))), .int (iI (ft)), .int (iI (pa))])), (mi, .inl (cB, 65536, .inl (f)))] sz)) (0) (0) (va_A [(m0, .inr (3, [.ref mt, .ref mi, .ref mk, .ref mf, .ref ml, .int (iI ((tc : Int))), .int (iI ((n : Int))), .int (iI ((w : Int))), .int (iI ((ks : Int))), .int (iI (ft)), .int (iI (pa))])), (mi, .inl (cB, 65536, .inl (f)))] sz) := by
  refine Met.ofW (cc := cX3_must) (maxL := 3) (ret := (some .int)) (by decide) rfl ?_
  intro p e s m args below meth c s₁ B hml hv
  obtain ⟨rfl, hsz, hP, hK, hD0⟩ := hv
  have hx := B.exec
  have hb := B.bytes
  have hr := B.returns
  have hts := atoms_spec (ws := wX3_must) B.pre
  have hown : s.vm.findClass "RequestCutterModel" = some m.cls := findClass_of_methodNamed B.named
  have hlocks := B.notSynchronized
  subst hsz
  have hD := hD0.self (sz := s.heap.size)
  generalize hAe : va_A [(m0, .inr (3, [.ref mt, .ref mi, .ref mk, .ref mf, .ref ml, .int (iI ((tc : Int))), .int (iI ((n : Int))), .int (iI ((w : Int))), .int (iI ((ks : Int))), .int (iI (ft)), .int (iI (pa))])), (mi, .inl (cB, 65536, .inl (f)))] s.heap.size = A at hD ⊢
  have hA : ∀ q : Nat, s.heap.size ≤ q → A q := fun q h => by rw [← hAe]; exact Or.inr h
  have hS : va_S A s.heap s.heap [] := va_S.rf
  have hP : va_P (dC, dI) vwCl [(m0, .inr (3, [.ref mt, .ref mi, .ref mk, .ref mf, .ref ml, .int (iI ((tc : Int))), .int (iI ((n : Int))), .int (iI ((w : Int))), .int (iI ((ks : Int))), .int (iI (ft)), .int (iI (pa))])), (mi, .inl (cB, 65536, .inl (f)))] s.heap := hP
  have hl := lv_entry ([.ref m0, .int (iI (x))]) (n := 3) (Nat.le_of_ble_eq_true rfl)
  rw [lg_entry_eq]
  generalize (lg_sl ([.ref m0, .int (iI (x))]) ++ List.replicate (3 - (lg_sl ([.ref m0, .int (iI (x))])).length) Slot.unset).toArray = ls at hl ⊢
  have hl : lv_has ls 3 [(0, .ref m0), (1, .int (iI (x)))] := hl
  refine lv_aload_n hx hb dX3_must_0 rfl (lv_at hl 0 rfl) ?_
  refine va_get (D := (dC, dI)) (ci := 3) (v := .int (iI (pa))) (C := "RequestCutterModel") (T := TX3) (N := 11) hx hb hts (fun w h => List.mem_cons_of_mem _ (inX3 w h)) hown hK hP 0 rfl rfl 10 (by decide) (hts _ (List.mem_cons_of_mem _ tw_276)) (fun _ h9 => h9) rfl dX3_must_1 ?_
  refine lv_aload_n hx hb dX3_must_4 rfl (lv_at hl 0 rfl) ?_
  refine va_get (D := (dC, dI)) (ci := 3) (v := .int (iI ((n : Int)))) (C := "RequestCutterModel") (T := TX3) (N := 11) hx hb hts (fun w h => List.mem_cons_of_mem _ (inX3 w h)) hown hK hP 0 rfl rfl 6 (by decide) (hts _ (List.mem_cons_of_mem _ tw_272)) (fun _ h9 => h9) rfl dX3_must_5 ?_
  refine lx_icmp_lt (a := pa) (b := (n : Int)) (tgt := 13) hx hb dX3_must_8 (by decide) (by omega) (by omega) (fun cq1 => ?_) (fun cq1 => ?_)
  · refine lv_aload_n hx hb dX3_must_13 rfl (lv_at hl 0 rfl) ?_
    refine va_get (D := (dC, dI)) (ci := 3) (v := .ref mi) (C := "RequestCutterModel") (T := TX3) (N := 11) hx hb hts (fun w h => List.mem_cons_of_mem _ (inX3 w h)) hown hK hP 0 rfl rfl 1 (by decide) (hts _ (List.mem_cons_of_mem _ tw_267)) (fun _ h9 => h9) rfl dX3_must_14 ?_
    refine lv_aload_n hx hb dX3_must_17 rfl (lv_at hl 0 rfl) ?_
    refine va_get (D := (dC, dI)) (ci := 3) (v := .int (iI (pa))) (C := "RequestCutterModel") (T := TX3) (N := 11) hx hb hts (fun w h => List.mem_cons_of_mem _ (inX3 w h)) hown hK hP 0 rfl rfl 10 (by decide) (hts _ (List.mem_cons_of_mem _ tw_276)) (fun _ h9 => h9) rfl dX3_must_18 ?_
    refine va_bald hx hb hK hP 1 0 rfl rfl (iI_in (by omega)) dX3_must_21 ?_
    refine lx_top (x2 := (f) ((pa).toNat)) (congrArg (f) (iI_cl (a := pa) (by omega))) ?_
    refine lx_top (x2 := iI (((f) ((pa).toNat)).toInt)) (Int32.ofInt_toInt _).symm ?_
    have g_m := mA hfit n (pa) (by omega)
    refine lv_iload_n hx hb dX3_must_22 rfl (lv_at hl 1 rfl) ?_
    refine lx_icmp_ne (a := ((f) ((pa).toNat)).toInt) (b := x) (tgt := 30) hx hb dX3_must_23 (by decide) (by omega) (by omega) (fun cq2 => ?_) (fun cq2 => ?_)
    · refine lv_iconst (v := iI (0)) hx hb dX3_must_30 rfl ?_
      refine lv_istore_n (lv' := [(2, .int (iI (0))), (0, .ref m0), (1, .int (iI (x)))]) hx hb dX3_must_31 rfl hl (by decide) rfl (fun ls hl => ?_)
      refine lv_aload_n hx hb dX3_must_32 rfl (lv_at hl 1 rfl) ?_
      refine lv_dup hx hb dX3_must_33 rfl ?_
      refine va_get (D := (dC, dI)) (ci := 3) (v := .int (iI (pa))) (C := "RequestCutterModel") (T := TX3) (N := 11) hx hb hts (fun w h => List.mem_cons_of_mem _ (inX3 w h)) hown hK hP 0 rfl rfl 10 (by decide) (hts _ (List.mem_cons_of_mem _ tw_276)) (fun _ h9 => h9) rfl dX3_must_34 ?_
      refine lv_iconst (v := iI (1)) hx hb dX3_must_37 rfl ?_
      refine lx_iadd (a := pa) (b := 1) hx hb dX3_must_38 ?_
      refine va_put (D := (dC, dI)) (ci := 3) (v := .int (iI (pa + 1))) (ty := .int) (C := "RequestCutterModel") (T := TX3) (N := 11) hx hb hts (fun w h => List.mem_cons_of_mem _ (inX3 w h)) tyX3 tyX3_ok nmX3 hown hK hP hD hS 0 rfl rfl 10 (by decide) (hts _ (List.mem_cons_of_mem _ tw_276)) (fun _ h9 => h9) rfl (by decide +kernel) rfl rfl (Nat.le_of_ble_eq_true rfl) dX3_must_39 (fun H locs hP hD hS => ?_)
      have hP : va_P (dC, dI) vwCl [(m0, .inr (3, [.ref mt, .ref mi, .ref mk, .ref mf, .ref ml, .int (iI ((tc : Int))), .int (iI ((n : Int))), .int (iI ((w : Int))), .int (iI ((ks : Int))), .int (iI (ft)), .int (iI (pa + 1))])), (mi, .inl (cB, 65536, .inl (f)))] H := hP
      have hD : va_D A [(m0, .inr (3, [.ref mt, .ref mi, .ref mk, .ref mf, .ref ml, .int (iI ((tc : Int))), .int (iI ((n : Int))), .int (iI ((w : Int))), .int (iI ((ks : Int))), .int (iI (ft)), .int (iI (pa + 1))])), (mi, .inl (cB, 65536, .inl (f)))] := hD
      refine lv_iload_n hx hb dX3_must_42 rfl (lv_at hl 0 rfl) ?_
      refine lx_if_eq (a := 0) (tgt := 50) hx hb dX3_must_43 (by decide) (by omega) (fun cq3 => ?_) (fun cq3 => ?_)
      · refine lv_iconst (v := iI (-1)) hx hb dX3_must_50 rfl ?_
        exact W.iret (v := iI (-1)) hx hb hr (fun t ht hW => ⟨⟨iI (-1), (pa + 1), rfl, ⟨by rw [if_neg (by omega), if_neg (by omega)], by rw [if_neg (by omega)]⟩, by rw [ht]; exact hP, va_K.moved hW.alike hK, hD⟩, hS.F ht⟩) hS.2.2 dX3_must_51
      · exact absurd cq3 (by omega)
    · refine lv_iconst (v := iI (1)) hx hb dX3_must_26 rfl ?_
      refine lv_goto (tgt := 31) hx hb dX3_must_27 (by decide) ?_
      refine lv_istore_n (lv' := [(2, .int (iI (1))), (0, .ref m0), (1, .int (iI (x)))]) hx hb dX3_must_31 rfl hl (by decide) rfl (fun ls hl => ?_)
      refine lv_aload_n hx hb dX3_must_32 rfl (lv_at hl 1 rfl) ?_
      refine lv_dup hx hb dX3_must_33 rfl ?_
      refine va_get (D := (dC, dI)) (ci := 3) (v := .int (iI (pa))) (C := "RequestCutterModel") (T := TX3) (N := 11) hx hb hts (fun w h => List.mem_cons_of_mem _ (inX3 w h)) hown hK hP 0 rfl rfl 10 (by decide) (hts _ (List.mem_cons_of_mem _ tw_276)) (fun _ h9 => h9) rfl dX3_must_34 ?_
      refine lv_iconst (v := iI (1)) hx hb dX3_must_37 rfl ?_
      refine lx_iadd (a := pa) (b := 1) hx hb dX3_must_38 ?_
      refine va_put (D := (dC, dI)) (ci := 3) (v := .int (iI (pa + 1))) (ty := .int) (C := "RequestCutterModel") (T := TX3) (N := 11) hx hb hts (fun w h => List.mem_cons_of_mem _ (inX3 w h)) tyX3 tyX3_ok nmX3 hown hK hP hD hS 0 rfl rfl 10 (by decide) (hts _ (List.mem_cons_of_mem _ tw_276)) (fun _ h9 => h9) rfl (by decide +kernel) rfl rfl (Nat.le_of_ble_eq_true rfl) dX3_must_39 (fun H locs hP hD hS => ?_)
      have hP : va_P (dC, dI) vwCl [(m0, .inr (3, [.ref mt, .ref mi, .ref mk, .ref mf, .ref ml, .int (iI ((tc : Int))), .int (iI ((n : Int))), .int (iI ((w : Int))), .int (iI ((ks : Int))), .int (iI (ft)), .int (iI (pa + 1))])), (mi, .inl (cB, 65536, .inl (f)))] H := hP
      have hD : va_D A [(m0, .inr (3, [.ref mt, .ref mi, .ref mk, .ref mf, .ref ml, .int (iI ((tc : Int))), .int (iI ((n : Int))), .int (iI ((w : Int))), .int (iI ((ks : Int))), .int (iI (ft)), .int (iI (pa + 1))])), (mi, .inl (cB, 65536, .inl (f)))] := hD
      refine lv_iload_n hx hb dX3_must_42 rfl (lv_at hl 0 rfl) ?_
      refine lx_if_eq (a := 1) (tgt := 50) hx hb dX3_must_43 (by decide) (by omega) (fun cq4 => ?_) (fun cq4 => ?_)
      · exact absurd cq4 (by omega)
      · refine lv_iconst (v := iI (1)) hx hb dX3_must_46 rfl ?_
        refine lv_goto (tgt := 51) hx hb dX3_must_47 (by decide) ?_
        exact W.iret (v := iI (1)) hx hb hr (fun t ht hW => ⟨⟨iI (1), (pa + 1), rfl, ⟨by rw [if_neg (by omega), if_pos (by omega)], by rw [if_neg (by omega)]⟩, by rw [ht]; exact hP, va_K.moved hW.alike hK, hD⟩, hS.F ht⟩) hS.2.2 dX3_must_51
  · refine lv_iconst (v := iI (0)) hx hb dX3_must_11 rfl ?_
    exact W.iret (v := iI (0)) hx hb hr (fun t ht hW => ⟨⟨iI (0), (pa), rfl, ⟨by rw [if_pos (by omega)], by rw [if_pos (by omega)]⟩, by rw [ht]; exact hP, va_K.moved hW.alike hK, hD⟩, hS.F ht⟩) hS.2.2 dX3_must_12
set_option maxHeartbeats 4000000 in
set_option maxRecDepth 100000 in
/-- word(where, size) -/
theorem c_X3_word (l : Launch) (dC : Nat → ClassId) (dI : Nat → Nat → Nat) (cB cI : ClassId) (sz : Nat) (m0 mt mi mk mf ml tc n w ks : Nat) (ft pa : Int) (f kf : Nat → Int32) (fa la : Nat → Int) (hn : n ≤ 65536) (hfit : sb_Fit f) (hkf : sb_Fit kf) (hw : w ≤ 1024) (x z : Nat) (hxz : x + z ≤ n) (hks : ks + z ≤ 65536) : Met l yX3_word wX3_word ({ frames := 0, cells := 0, slots := 0, locals := 0 }) (va_Pc [.ref m0, .int (iI ((x : Int))), .int (iI ((z : Int)))] (vx_B (dC, dI) vwCl [(cB, .byte), (cI, .int)] [(m0, .inr (3, [.ref mt, .ref mi, .ref mk, .ref mf, .ref ml, .int (iI ((tc : Int))), .int (iI ((n : Int))), .int (iI ((w : Int))), .int (iI ((ks : Int))), .int (iI (ft)), .int (iI (pa))])), (mi, .inl (cB, 65536, .inl (f))), (mk, .inl (cB, 65536, .inl (kf))), (mf, .inl (cI, 1025, .inl (fun k => iI (fa k)))), (ml, .inl (cI, 1025, .inl (fun k => iI (la k))))] sz)) (va_Qv (fun (u : Nat → Int32) => sb_Fit u ∧ (∀ j, j < ks → u j = kf j) ∧ ∀ j, j < z → u (ks + j) = f (x + j)) (fun (u : Nat → Int32) => vx_E (dC, dI) vwCl [(cB, .byte), (cI, .int)] (va_A [(m0, .inr (3, [.ref mt, .ref mi, .ref mk, .ref mf, .ref ml, .int (iI ((tc : Int))), .int (iI ((n : Int))), .int (iI ((w : Int))), .int (iI ((ks : Int))), .int (iI (ft)), .int (iI (pa))])), (mi, .inl (cB, 65536, .inl (f))), (mk, .inl (cB, 65536, .inl (kf))), (mf, .inl (cI, 1025, .inl (fun k => iI (fa k)))), (ml, .inl (cI, 1025, .inl (fun k => iI (la k))))] sz) [(m0, .inr (3, [.ref mt, .ref mi, .ref mk, .ref mf, .ref ml, .int (iI ((tc : Int))), .int (iI ((n : Int))), .int (iI (((w + 1 : Nat) : Int))), .int (iI (((ks + z : Nat) : Int))), .int (iI (ft)), .int (iI (pa))])), (mi, .inl (cB, 65536, .inl (f))), (mk, .inl (cB, 65536, .inl (u))), (mf, .inl (cI, 1025, .inl (fun k => iI ((updZ fa w (ks : Int)) k)))), (ml, .inl (cI, 1025, .inl (fun k => iI ((updZ la w (z : Int)) k))))]) (va_A [(m0, .inr (3, [.ref mt, .ref mi, .ref mk, .ref mf, .ref ml, .int (iI ((tc : Int))), .int (iI ((n : Int))), .int (iI ((w : Int))), .int (iI ((ks : Int))), .int (iI (ft)), .int (iI (pa))])), (mi, .inl (cB, 65536, .inl (f))), (mk, .inl (cB, 65536, .inl (kf))), (mf, .inl (cI, 1025, .inl (fun k => iI (fa k)))), (ml, .inl (cI, 1025, .inl (fun k => iI (la k))))] sz)) (0) (0) (va_A [(m0, .inr (3, [.ref mt, .ref mi, .ref mk, .ref mf, .ref ml, .int (iI ((tc : Int))), .int (iI ((n : Int))), .int (iI ((w : Int))), .int (iI ((ks : Int))), .int (iI (ft)), .int (iI (pa))])), (mi, .inl (cB, 65536, .inl (f))), (mk, .inl (cB, 65536, .inl (kf))), (mf, .inl (cI, 1025, .inl (fun k => iI (fa k)))), (ml, .inl (cI, 1025, .inl (fun k => iI (la k))))] sz) := by
  refine Met.ofW (cc := cX3_word) (maxL := 4) (ret := none) (by decide) rfl ?_
  intro p e s m args below meth c s₁ B hml hv
  obtain ⟨rfl, hsz, hP, hK, hD0⟩ := hv
  have hx := B.exec
  have hb := B.bytes
  have hr := B.returns
  have hts := atoms_spec (ws := wX3_word) B.pre
  have hown : s.vm.findClass "RequestCutterModel" = some m.cls := findClass_of_methodNamed B.named
  have hlocks := B.notSynchronized
  subst hsz
  have hD := hD0.self (sz := s.heap.size)
  generalize hAe : va_A [(m0, .inr (3, [.ref mt, .ref mi, .ref mk, .ref mf, .ref ml, .int (iI ((tc : Int))), .int (iI ((n : Int))), .int (iI ((w : Int))), .int (iI ((ks : Int))), .int (iI (ft)), .int (iI (pa))])), (mi, .inl (cB, 65536, .inl (f))), (mk, .inl (cB, 65536, .inl (kf))), (mf, .inl (cI, 1025, .inl (fun k => iI (fa k)))), (ml, .inl (cI, 1025, .inl (fun k => iI (la k))))] s.heap.size = A at hD ⊢
  have hA : ∀ q : Nat, s.heap.size ≤ q → A q := fun q h => by rw [← hAe]; exact Or.inr h
  have hS : va_S A s.heap s.heap [] := va_S.rf
  have hP : va_P (dC, dI) vwCl [(m0, .inr (3, [.ref mt, .ref mi, .ref mk, .ref mf, .ref ml, .int (iI ((tc : Int))), .int (iI ((n : Int))), .int (iI ((w : Int))), .int (iI ((ks : Int))), .int (iI (ft)), .int (iI (pa))])), (mi, .inl (cB, 65536, .inl (f))), (mk, .inl (cB, 65536, .inl (kf))), (mf, .inl (cI, 1025, .inl (fun k => iI (fa k)))), (ml, .inl (cI, 1025, .inl (fun k => iI (la k))))] s.heap := hP
  have hl := lv_entry ([.ref m0, .int (iI ((x : Int))), .int (iI ((z : Int)))]) (n := 4) (Nat.le_of_ble_eq_true rfl)
  rw [lg_entry_eq]
  generalize (lg_sl ([.ref m0, .int (iI ((x : Int))), .int (iI ((z : Int)))]) ++ List.replicate (4 - (lg_sl ([.ref m0, .int (iI ((x : Int))), .int (iI ((z : Int)))])).length) Slot.unset).toArray = ls at hl ⊢
  have hl : lv_has ls 4 [(0, .ref m0), (1, .int (iI ((x : Int)))), (2, .int (iI ((z : Int))))] := hl
  refine lv_aload_n hx hb dX3_word_0 rfl (lv_at hl 0 rfl) ?_
  refine va_get (D := (dC, dI)) (ci := 3) (v := .ref mf) (C := "RequestCutterModel") (T := TX3) (N := 11) hx hb hts (fun w h => List.mem_cons_of_mem _ (inX3 w h)) hown hK hP 0 rfl rfl 3 (by decide) (hts _ (List.mem_cons_of_mem _ tw_269)) (fun _ h9 => h9) rfl dX3_word_1 ?_
  refine lv_aload_n hx hb dX3_word_4 rfl (lv_at hl 0 rfl) ?_
  refine va_get (D := (dC, dI)) (ci := 3) (v := .int (iI ((w : Int)))) (C := "RequestCutterModel") (T := TX3) (N := 11) hx hb hts (fun w h => List.mem_cons_of_mem _ (inX3 w h)) hown hK hP 0 rfl rfl 7 (by decide) (hts _ (List.mem_cons_of_mem _ tw_273)) (fun _ h9 => h9) rfl dX3_word_5 ?_
  refine lv_aload_n hx hb dX3_word_8 rfl (lv_at hl 0 rfl) ?_
  refine va_get (D := (dC, dI)) (ci := 3) (v := .int (iI ((ks : Int)))) (C := "RequestCutterModel") (T := TX3) (N := 11) hx hb hts (fun w h => List.mem_cons_of_mem _ (inX3 w h)) hown hK hP 0 rfl rfl 8 (by decide) (hts _ (List.mem_cons_of_mem _ tw_274)) (fun _ h9 => h9) rfl dX3_word_9 ?_
  refine lx_iast (x := iI ((ks : Int))) (i := (w : Int)) hx hb hK hP hD hS 3 1 rfl rfl (w) (by omega) (by omega) dX3_word_12 (fun H locs hP hD hS => ?_)
  have hP : va_P (dC, dI) vwCl [(m0, .inr (3, [.ref mt, .ref mi, .ref mk, .ref mf, .ref ml, .int (iI ((tc : Int))), .int (iI ((n : Int))), .int (iI ((w : Int))), .int (iI ((ks : Int))), .int (iI (ft)), .int (iI (pa))])), (mi, .inl (cB, 65536, .inl (f))), (mk, .inl (cB, 65536, .inl (kf))), (mf, .inl (cI, 1025, .inl (upd (fun k => iI (fa k)) (w) (iI ((ks : Int)))))), (ml, .inl (cI, 1025, .inl (fun k => iI (la k))))] H := hP
  have hD : va_D A [(m0, .inr (3, [.ref mt, .ref mi, .ref mk, .ref mf, .ref ml, .int (iI ((tc : Int))), .int (iI ((n : Int))), .int (iI ((w : Int))), .int (iI ((ks : Int))), .int (iI (ft)), .int (iI (pa))])), (mi, .inl (cB, 65536, .inl (f))), (mk, .inl (cB, 65536, .inl (kf))), (mf, .inl (cI, 1025, .inl (upd (fun k => iI (fa k)) (w) (iI ((ks : Int)))))), (ml, .inl (cI, 1025, .inl (fun k => iI (la k))))] := hD
  rw [up_iI] at hP hD
  refine lv_aload_n hx hb dX3_word_13 rfl (lv_at hl 0 rfl) ?_
  refine va_get (D := (dC, dI)) (ci := 3) (v := .ref ml) (C := "RequestCutterModel") (T := TX3) (N := 11) hx hb hts (fun w h => List.mem_cons_of_mem _ (inX3 w h)) hown hK hP 0 rfl rfl 4 (by decide) (hts _ (List.mem_cons_of_mem _ tw_270)) (fun _ h9 => h9) rfl dX3_word_14 ?_
  refine lv_aload_n hx hb dX3_word_17 rfl (lv_at hl 0 rfl) ?_
  refine va_get (D := (dC, dI)) (ci := 3) (v := .int (iI ((w : Int)))) (C := "RequestCutterModel") (T := TX3) (N := 11) hx hb hts (fun w h => List.mem_cons_of_mem _ (inX3 w h)) hown hK hP 0 rfl rfl 7 (by decide) (hts _ (List.mem_cons_of_mem _ tw_273)) (fun _ h9 => h9) rfl dX3_word_18 ?_
  refine lv_iload_n hx hb dX3_word_21 rfl (lv_at hl 2 rfl) ?_
  refine lx_iast (x := iI ((z : Int))) (i := (w : Int)) hx hb hK hP hD hS 4 1 rfl rfl (w) (by omega) (by omega) dX3_word_22 (fun H locs hP hD hS => ?_)
  have hP : va_P (dC, dI) vwCl [(m0, .inr (3, [.ref mt, .ref mi, .ref mk, .ref mf, .ref ml, .int (iI ((tc : Int))), .int (iI ((n : Int))), .int (iI ((w : Int))), .int (iI ((ks : Int))), .int (iI (ft)), .int (iI (pa))])), (mi, .inl (cB, 65536, .inl (f))), (mk, .inl (cB, 65536, .inl (kf))), (mf, .inl (cI, 1025, .inl (fun k => iI (updZ (fa) (w) ((ks : Int)) k)))), (ml, .inl (cI, 1025, .inl (upd (fun k => iI (la k)) (w) (iI ((z : Int))))))] H := hP
  have hD : va_D A [(m0, .inr (3, [.ref mt, .ref mi, .ref mk, .ref mf, .ref ml, .int (iI ((tc : Int))), .int (iI ((n : Int))), .int (iI ((w : Int))), .int (iI ((ks : Int))), .int (iI (ft)), .int (iI (pa))])), (mi, .inl (cB, 65536, .inl (f))), (mk, .inl (cB, 65536, .inl (kf))), (mf, .inl (cI, 1025, .inl (fun k => iI (updZ (fa) (w) ((ks : Int)) k)))), (ml, .inl (cI, 1025, .inl (upd (fun k => iI (la k)) (w) (iI ((z : Int))))))] := hD
  rw [up_iI] at hP hD
  refine lv_iconst (v := iI (0)) hx hb dX3_word_23 rfl ?_
  refine lv_istore_n (lv' := [(3, .int (iI (0))), (0, .ref m0), (1, .int (iI ((x : Int)))), (2, .int (iI ((z : Int))))]) hx hb dX3_word_24 rfl hl (by decide) rfl (fun ls hl => ?_)
  refine (?_ : ∀ (k : Nat) (i : Nat) (g : Nat → Int32) (H : Heap) (locs : List Loc) (ls : Array Slot), i + k = z → sb_Fit g → (∀ j, j < ks → g j = kf j) → (∀ j, j < i → g (ks + j) = f (x + j)) → va_P (dC, dI) vwCl [(m0, .inr (3, [.ref mt, .ref mi, .ref mk, .ref mf, .ref ml, .int (iI ((tc : Int))), .int (iI ((n : Int))), .int (iI ((w : Int))), .int (iI ((ks : Int))), .int (iI (ft)), .int (iI (pa))])), (mi, .inl (cB, 65536, .inl (f))), (mk, .inl (cB, 65536, .inl (g))), (mf, .inl (cI, 1025, .inl (fun k => iI (updZ (fa) (w) ((ks : Int)) k)))), (ml, .inl (cI, 1025, .inl (fun k => iI (updZ (la) (w) ((z : Int)) k))))] H → va_D A [(m0, .inr (3, [.ref mt, .ref mi, .ref mk, .ref mf, .ref ml, .int (iI ((tc : Int))), .int (iI ((n : Int))), .int (iI ((w : Int))), .int (iI ((ks : Int))), .int (iI (ft)), .int (iI (pa))])), (mi, .inl (cB, 65536, .inl (f))), (mk, .inl (cB, 65536, .inl (g))), (mf, .inl (cI, 1025, .inl (fun k => iI (updZ (fa) (w) ((ks : Int)) k)))), (ml, .inl (cI, 1025, .inl (fun k => iI (updZ (la) (w) ((z : Int)) k))))] → va_S A s.heap H locs → lv_has ls 4 [(3, .int (iI ((i : Int)))), (0, .ref m0), (1, .int (iI ((x : Int)))), (2, .int (iI ((z : Int))))] → W p l e _ s m _ below meth c H locs _ _ _ (F0 m 25 ls [])) (z) (0) (kf) _ _ ls (by omega) (hkf) (fun _ _ => rfl) (fun j hj => absurd hj (Nat.not_lt_zero j)) (hP.sub [0, 1, 2, 3, 4] rfl) (hD.sub [0, 1, 2, 3, 4] (by decide) rfl) hS (lv_sub hl [0, 1, 2, 3] rfl)
  intro k
  induction k with
  | zero =>
    intro i g H locs ls hk hg hg1 hg2 hP hD hS hl
    refine lv_iload_n hx hb dX3_word_25 rfl (lv_at hl 0 rfl) ?_
    refine lv_iload_n hx hb dX3_word_26 rfl (lv_at hl 3 rfl) ?_
    refine lx_icmp_ge (a := (i : Int)) (b := (z : Int)) (tgt := 55) hx hb dX3_word_27 (by decide) (by omega) (by omega) (fun cq1 => ?_) (fun cq1 => ?_)
    · refine lv_aload_n hx hb dX3_word_55 rfl (lv_at hl 1 rfl) ?_
      refine lv_dup hx hb dX3_word_56 rfl ?_
      refine va_get (D := (dC, dI)) (ci := 3) (v := .int (iI ((ks : Int)))) (C := "RequestCutterModel") (T := TX3) (N := 11) hx hb hts (fun w h => List.mem_cons_of_mem _ (inX3 w h)) hown hK hP 0 rfl rfl 8 (by decide) (hts _ (List.mem_cons_of_mem _ tw_274)) (fun _ h9 => h9) rfl dX3_word_57 ?_
      refine lv_iload_n hx hb dX3_word_60 rfl (lv_at hl 3 rfl) ?_
      refine lx_iadd (a := (ks : Int)) (b := (z : Int)) hx hb dX3_word_61 ?_
      refine lx_top (x2 := iI ((ks + z : Nat) : Int)) (congrArg iI (by omega)) ?_
      refine va_put (D := (dC, dI)) (ci := 3) (v := .int (iI (((ks + z : Nat) : Int)))) (ty := .int) (C := "RequestCutterModel") (T := TX3) (N := 11) hx hb hts (fun w h => List.mem_cons_of_mem _ (inX3 w h)) tyX3 tyX3_ok nmX3 hown hK hP hD hS 0 rfl rfl 8 (by decide) (hts _ (List.mem_cons_of_mem _ tw_274)) (fun _ h9 => h9) rfl (by decide +kernel) rfl rfl (Nat.le_of_ble_eq_true rfl) dX3_word_62 (fun H locs hP hD hS => ?_)
      have hP : va_P (dC, dI) vwCl [(m0, .inr (3, [.ref mt, .ref mi, .ref mk, .ref mf, .ref ml, .int (iI ((tc : Int))), .int (iI ((n : Int))), .int (iI ((w : Int))), .int (iI (((ks + z : Nat) : Int))), .int (iI (ft)), .int (iI (pa))])), (mi, .inl (cB, 65536, .inl (f))), (mk, .inl (cB, 65536, .inl (g))), (mf, .inl (cI, 1025, .inl (fun k => iI (updZ (fa) (w) ((ks : Int)) k)))), (ml, .inl (cI, 1025, .inl (fun k => iI (updZ (la) (w) ((z : Int)) k))))] H := hP
      have hD : va_D A [(m0, .inr (3, [.ref mt, .ref mi, .ref mk, .ref mf, .ref ml, .int (iI ((tc : Int))), .int (iI ((n : Int))), .int (iI ((w : Int))), .int (iI (((ks + z : Nat) : Int))), .int (iI (ft)), .int (iI (pa))])), (mi, .inl (cB, 65536, .inl (f))), (mk, .inl (cB, 65536, .inl (g))), (mf, .inl (cI, 1025, .inl (fun k => iI (updZ (fa) (w) ((ks : Int)) k)))), (ml, .inl (cI, 1025, .inl (fun k => iI (updZ (la) (w) ((z : Int)) k))))] := hD
      refine lv_aload_n hx hb dX3_word_65 rfl (lv_at hl 1 rfl) ?_
      refine lv_dup hx hb dX3_word_66 rfl ?_
      refine va_get (D := (dC, dI)) (ci := 3) (v := .int (iI ((w : Int)))) (C := "RequestCutterModel") (T := TX3) (N := 11) hx hb hts (fun w h => List.mem_cons_of_mem _ (inX3 w h)) hown hK hP 0 rfl rfl 7 (by decide) (hts _ (List.mem_cons_of_mem _ tw_273)) (fun _ h9 => h9) rfl dX3_word_67 ?_
      refine lv_iconst (v := iI (1)) hx hb dX3_word_70 rfl ?_
      refine lx_iadd (a := (w : Int)) (b := 1) hx hb dX3_word_71 ?_
      refine lx_top (x2 := iI ((w + 1 : Nat) : Int)) (congrArg iI (by omega)) ?_
      refine va_put (D := (dC, dI)) (ci := 3) (v := .int (iI (((w + 1 : Nat) : Int)))) (ty := .int) (C := "RequestCutterModel") (T := TX3) (N := 11) hx hb hts (fun w h => List.mem_cons_of_mem _ (inX3 w h)) tyX3 tyX3_ok nmX3 hown hK hP hD hS 0 rfl rfl 7 (by decide) (hts _ (List.mem_cons_of_mem _ tw_273)) (fun _ h9 => h9) rfl (by decide +kernel) rfl rfl (Nat.le_of_ble_eq_true rfl) dX3_word_72 (fun H locs hP hD hS => ?_)
      have hP : va_P (dC, dI) vwCl [(m0, .inr (3, [.ref mt, .ref mi, .ref mk, .ref mf, .ref ml, .int (iI ((tc : Int))), .int (iI ((n : Int))), .int (iI (((w + 1 : Nat) : Int))), .int (iI (((ks + z : Nat) : Int))), .int (iI (ft)), .int (iI (pa))])), (mi, .inl (cB, 65536, .inl (f))), (mk, .inl (cB, 65536, .inl (g))), (mf, .inl (cI, 1025, .inl (fun k => iI (updZ (fa) (w) ((ks : Int)) k)))), (ml, .inl (cI, 1025, .inl (fun k => iI (updZ (la) (w) ((z : Int)) k))))] H := hP
      have hD : va_D A [(m0, .inr (3, [.ref mt, .ref mi, .ref mk, .ref mf, .ref ml, .int (iI ((tc : Int))), .int (iI ((n : Int))), .int (iI (((w + 1 : Nat) : Int))), .int (iI (((ks + z : Nat) : Int))), .int (iI (ft)), .int (iI (pa))])), (mi, .inl (cB, 65536, .inl (f))), (mk, .inl (cB, 65536, .inl (g))), (mf, .inl (cI, 1025, .inl (fun k => iI (updZ (fa) (w) ((ks : Int)) k)))), (ml, .inl (cI, 1025, .inl (fun k => iI (updZ (la) (w) ((z : Int)) k))))] := hD
      exact W.vret hx hb hr (fun t ht hW => ⟨⟨g, rfl, ⟨hg, hg1, fun j hj => hg2 j (by omega)⟩, by rw [ht]; exact hP, va_K.moved hW.alike hK, hD⟩, hS.F ht⟩) hS.2.2 dX3_word_75
    · exact absurd cq1 (by omega)
  | succ k ih =>
    intro i g H locs ls hk hg hg1 hg2 hP hD hS hl
    refine lv_iload_n hx hb dX3_word_25 rfl (lv_at hl 0 rfl) ?_
    refine lv_iload_n hx hb dX3_word_26 rfl (lv_at hl 3 rfl) ?_
    refine lx_icmp_ge (a := (i : Int)) (b := (z : Int)) (tgt := 55) hx hb dX3_word_27 (by decide) (by omega) (by omega) (fun cq2 => ?_) (fun cq2 => ?_)
    · exact absurd cq2 (by omega)
    · refine lv_aload_n hx hb dX3_word_30 rfl (lv_at hl 1 rfl) ?_
      refine va_get (D := (dC, dI)) (ci := 3) (v := .ref mk) (C := "RequestCutterModel") (T := TX3) (N := 11) hx hb hts (fun w h => List.mem_cons_of_mem _ (inX3 w h)) hown hK hP 0 rfl rfl 2 (by decide) (hts _ (List.mem_cons_of_mem _ tw_268)) (fun _ h9 => h9) rfl dX3_word_31 ?_
      refine lv_aload_n hx hb dX3_word_34 rfl (lv_at hl 1 rfl) ?_
      refine va_get (D := (dC, dI)) (ci := 3) (v := .int (iI ((ks : Int)))) (C := "RequestCutterModel") (T := TX3) (N := 11) hx hb hts (fun w h => List.mem_cons_of_mem _ (inX3 w h)) hown hK hP 0 rfl rfl 8 (by decide) (hts _ (List.mem_cons_of_mem _ tw_274)) (fun _ h9 => h9) rfl dX3_word_35 ?_
      refine lv_iload_n hx hb dX3_word_38 rfl (lv_at hl 0 rfl) ?_
      refine lx_iadd (a := (ks : Int)) (b := (i : Int)) hx hb dX3_word_39 ?_
      refine lv_aload_n hx hb dX3_word_40 rfl (lv_at hl 1 rfl) ?_
      refine va_get (D := (dC, dI)) (ci := 3) (v := .ref mi) (C := "RequestCutterModel") (T := TX3) (N := 11) hx hb hts (fun w h => List.mem_cons_of_mem _ (inX3 w h)) hown hK hP 0 rfl rfl 1 (by decide) (hts _ (List.mem_cons_of_mem _ tw_267)) (fun _ h9 => h9) rfl dX3_word_41 ?_
      refine lv_iload_n hx hb dX3_word_44 rfl (lv_at hl 2 rfl) ?_
      refine lv_iload_n hx hb dX3_word_45 rfl (lv_at hl 0 rfl) ?_
      refine lx_iadd (a := (x : Int)) (b := (i : Int)) hx hb dX3_word_46 ?_
      refine va_bald hx hb hK hP 1 0 rfl rfl (iI_in (by omega)) dX3_word_47 ?_
      refine lx_top (x2 := (f) (x + i)) (congrArg (f) (iI_clN (n := x + i) (by omega))) ?_
      refine lx_bast (x := (f) (x + i)) (v := f (x + i)) (i := ((ks : Int)) + ((i : Int))) hx hb hK hP hD hS 2 0 rfl rfl (ks + i) (by omega) (by omega) (nar_fit (hfit _)) dX3_word_48 (fun H locs hP hD hS => ?_)
      have hP : va_P (dC, dI) vwCl [(m0, .inr (3, [.ref mt, .ref mi, .ref mk, .ref mf, .ref ml, .int (iI ((tc : Int))), .int (iI ((n : Int))), .int (iI ((w : Int))), .int (iI ((ks : Int))), .int (iI (ft)), .int (iI (pa))])), (mi, .inl (cB, 65536, .inl (f))), (mk, .inl (cB, 65536, .inl (upd (g) (ks + i) (f (x + i))))), (mf, .inl (cI, 1025, .inl (fun k => iI (updZ (fa) (w) ((ks : Int)) k)))), (ml, .inl (cI, 1025, .inl (fun k => iI (updZ (la) (w) ((z : Int)) k))))] H := hP
      have hD : va_D A [(m0, .inr (3, [.ref mt, .ref mi, .ref mk, .ref mf, .ref ml, .int (iI ((tc : Int))), .int (iI ((n : Int))), .int (iI ((w : Int))), .int (iI ((ks : Int))), .int (iI (ft)), .int (iI (pa))])), (mi, .inl (cB, 65536, .inl (f))), (mk, .inl (cB, 65536, .inl (upd (g) (ks + i) (f (x + i))))), (mf, .inl (cI, 1025, .inl (fun k => iI (updZ (fa) (w) ((ks : Int)) k)))), (ml, .inl (cI, 1025, .inl (fun k => iI (updZ (la) (w) ((z : Int)) k))))] := hD
      refine lv_iinc (v := iI ((i : Int) + 1)) (lv' := [(3, .int (iI ((i : Int) + 1))), (0, .ref m0), (1, .int (iI ((x : Int)))), (2, .int (iI ((z : Int))))]) hx hb dX3_word_49 hl (k := 0) rfl (iI_add _ _) (by decide) rfl (fun ls hl => ?_)
      refine lv_goto (tgt := 25) hx hb dX3_word_52 (by decide) ?_
      exact ih (i + 1) (upd g (ks + i) (f (x + i))) _ _ ls (by omega) (sb_fitU hg (hfit _)) (fun j hj => by simp only [upd]; rw [if_neg (by omega)]; exact hg1 j hj) (fun j hj => by simp only [upd]; by_cases q : j = i; rw [q, if_pos rfl]; rw [if_neg (by omega)]; exact hg2 j (by omega)) (hP.sub [0, 1, 2, 3, 4] rfl) (hD.sub [0, 1, 2, 3, 4] (by decide) rfl) hS (lv_sub hl [0, 1, 2, 3] rfl)
set_option maxHeartbeats 4000000 in
set_option maxRecDepth 100000 in
/-- RequestCutterModel() -/
theorem c_X3_init (l : Launch) (dC : Nat → ClassId) (dI : Nat → Nat → Nat) (cB cI : ClassId) (sz : Nat) (m0 : Nat) : Met l yX3_init wX3_init ({ frames := 1, cells := 5, slots := 143362, locals := 21 }) (va_Pc [.ref m0] (vx_B (dC, dI) vwCl [(cB, .byte), (cI, .int)] [(m0, .inr (3, [.null, .null, .null, .null, .null, .int (iI (0)), .int (iI (0)), .int (iI (0)), .int (iI (0)), .int (iI (0)), .int (iI (0))]))] sz)) (va_Qv (fun (u : Nat × Nat × Nat × Nat × Nat) => True) (fun (u : Nat × Nat × Nat × Nat × Nat) => vx_E (dC, dI) vwCl [(cB, .byte), (cI, .int)] (va_A [(m0, .inr (3, [.null, .null, .null, .null, .null, .int (iI (0)), .int (iI (0)), .int (iI (0)), .int (iI (0)), .int (iI (0)), .int (iI (0))]))] sz) [(m0, .inr (3, [.ref u.1, .ref u.2.1, .ref u.2.2.1, .ref u.2.2.2.1, .ref u.2.2.2.2, .int (iI (0)), .int (iI (0)), .int (iI (0)), .int (iI (0)), .int (iI (0)), .int (iI (0))])), (u.1, .inl (cB, 10240, .inl (fun _ => 0))), (u.2.1, .inl (cB, 65536, .inl (fun _ => 0))), (u.2.2.1, .inl (cB, 65536, .inl (fun _ => 0))), (u.2.2.2.1, .inl (cI, 1025, .inl (fun _ => 0))), (u.2.2.2.2, .inl (cI, 1025, .inl (fun _ => 0)))]) (va_A [(m0, .inr (3, [.null, .null, .null, .null, .null, .int (iI (0)), .int (iI (0)), .int (iI (0)), .int (iI (0)), .int (iI (0)), .int (iI (0))]))] sz)) (5) (143362) (va_A [(m0, .inr (3, [.null, .null, .null, .null, .null, .int (iI (0)), .int (iI (0)), .int (iI (0)), .int (iI (0)), .int (iI (0)), .int (iI (0))]))] sz) := by
  refine Met.ofW (cc := cX3_init) (maxL := 1) (ret := none) (by decide) rfl ?_
  intro p e s m args below meth c s₁ B hml hv
  obtain ⟨rfl, hsz, hP, hK, hD0⟩ := hv
  have hx := B.exec
  have hb := B.bytes
  have hr := B.returns
  have hts := atoms_spec (ws := wX3_init) B.pre
  have hown : s.vm.findClass "RequestCutterModel" = some m.cls := findClass_of_methodNamed B.named
  have hlocks := B.notSynchronized
  have hin : meth.name = "<init>" := (name_of_methodNamed B.named B.method).1
  subst hsz
  have hD := hD0.self (sz := s.heap.size)
  generalize hAe : va_A [(m0, .inr (3, [.null, .null, .null, .null, .null, .int (iI (0)), .int (iI (0)), .int (iI (0)), .int (iI (0)), .int (iI (0)), .int (iI (0))]))] s.heap.size = A at hD ⊢
  have hA : ∀ q : Nat, s.heap.size ≤ q → A q := fun q h => by rw [← hAe]; exact Or.inr h
  have hS : va_S A s.heap s.heap [] := va_S.rf
  have hP : va_P (dC, dI) vwCl [(m0, .inr (3, [.null, .null, .null, .null, .null, .int (iI (0)), .int (iI (0)), .int (iI (0)), .int (iI (0)), .int (iI (0)), .int (iI (0))]))] s.heap := hP
  have hl := lv_entry ([.ref m0]) (n := 1) (Nat.le_of_ble_eq_true rfl)
  rw [lg_entry_eq]
  generalize (lg_sl ([.ref m0]) ++ List.replicate (1 - (lg_sl ([.ref m0])).length) Slot.unset).toArray = ls at hl ⊢
  have hl : lv_has ls 1 [(0, .ref m0)] := hl
  refine lv_aload_n hx hb dX3_init_0 rfl (lv_at hl 0 rfl) ?_
  refine W.objInit hx hb hown (hts _ (List.mem_cons_of_mem _ tw_264)) (hts _ (List.mem_cons_of_mem _ tw_32)) (hts _ (List.mem_cons_of_mem _ tw_33)) rfl (by rw [hml]; exact hl.1) rfl dX3_init_1 (Nat.le_of_ble_eq_true rfl) (Nat.le_of_ble_eq_true rfl) ?_
  refine W.eq (g2 := F0 m 4 ls []) rfl ?_
  refine lv_aload_n hx hb dX3_init_4 rfl (lv_at hl 0 rfl) ?_
  refine lv_sipush (v := iI (10240)) hx hb dX3_init_5 (by decide) ?_
  refine va_newa (atype := .byte) (a0 := (10240, .inl (fun _ => 0))) (ty := .byte) hx hb (hts _ (List.mem_cons_of_mem _ tw_50)) rfl hK hP hD hS hA (fun _ => rfl) (iI_nn (by omega)) (by rw [iI_cl (by omega)]; omega) (by show 10240 * 1 ≤ 536870912; omega) (by show 0 + 1 ≤ 5; omega) (by show 0 + 10240 ≤ 143362; omega) dX3_init_8 (fun q1 cA H hK1 hP hD hS => ?_)
  obtain rfl : cB = cA := vx_nmB hK1 0 2 rfl rfl
  have hP : va_P (dC, dI) vwCl [(m0, .inr (3, [.null, .null, .null, .null, .null, .int (iI (0)), .int (iI (0)), .int (iI (0)), .int (iI (0)), .int (iI (0)), .int (iI (0))])), (q1, .inl (cB, 10240, .inl (fun _ => 0)))] H := hP
  have hD : va_D A [(m0, .inr (3, [.null, .null, .null, .null, .null, .int (iI (0)), .int (iI (0)), .int (iI (0)), .int (iI (0)), .int (iI (0)), .int (iI (0))])), (q1, .inl (cB, 10240, .inl (fun _ => 0)))] := hD
  refine W.widen (k := 1) (n := 10240) (by omega) (by omega) ?_
  refine va_putF (D := (dC, dI)) (ci := 3) (v := .ref q1) (ty := .array .byte) (C := "RequestCutterModel") (T := TX3) (N := 11) hx hb hts (fun w h => List.mem_cons_of_mem _ (inX3 w h)) tyX3 tyX3_ok nmX3 hown hK hP hD hS 0 rfl rfl 0 (by decide) (hts _ (List.mem_cons_of_mem _ tw_266)) (fun _ h9 => h9) rfl hin rfl (by decide +kernel) rfl rfl (Nat.le_of_ble_eq_true rfl) dX3_init_10 (fun H locs hP hD hS => ?_)
  have hP : va_P (dC, dI) vwCl [(m0, .inr (3, [.ref q1, .null, .null, .null, .null, .int (iI (0)), .int (iI (0)), .int (iI (0)), .int (iI (0)), .int (iI (0)), .int (iI (0))])), (q1, .inl (cB, 10240, .inl (fun _ => 0)))] H := hP
  have hD : va_D A [(m0, .inr (3, [.ref q1, .null, .null, .null, .null, .int (iI (0)), .int (iI (0)), .int (iI (0)), .int (iI (0)), .int (iI (0)), .int (iI (0))])), (q1, .inl (cB, 10240, .inl (fun _ => 0)))] := hD
  refine lv_aload_n hx hb dX3_init_13 rfl (lv_at hl 0 rfl) ?_
  refine lx_ldc (z := 65536) (v := 65536) hx hb hown (hts _ (List.mem_cons_of_mem _ tw_265)) (by decide) dX3_init_14 ?_
  refine va_newa (atype := .byte) (a0 := (65536, .inl (fun _ => 0))) (ty := .byte) hx hb (hts _ (List.mem_cons_of_mem _ tw_50)) rfl hK hP hD hS hA (fun _ => rfl) (iI_nn (by omega)) (by rw [iI_cl (by omega)]; omega) (by show 65536 * 1 ≤ 536870912; omega) (by show 1 + 1 ≤ 5; omega) (by show 10240 + 65536 ≤ 143362; omega) dX3_init_16 (fun q2 cA H hK1 hP hD hS => ?_)
  obtain rfl : cB = cA := vx_nmB hK1 0 2 rfl rfl
  have hP : va_P (dC, dI) vwCl [(m0, .inr (3, [.ref q1, .null, .null, .null, .null, .int (iI (0)), .int (iI (0)), .int (iI (0)), .int (iI (0)), .int (iI (0)), .int (iI (0))])), (q1, .inl (cB, 10240, .inl (fun _ => 0))), (q2, .inl (cB, 65536, .inl (fun _ => 0)))] H := hP
  have hD : va_D A [(m0, .inr (3, [.ref q1, .null, .null, .null, .null, .int (iI (0)), .int (iI (0)), .int (iI (0)), .int (iI (0)), .int (iI (0)), .int (iI (0))])), (q1, .inl (cB, 10240, .inl (fun _ => 0))), (q2, .inl (cB, 65536, .inl (fun _ => 0)))] := hD
  refine W.widen (k := 2) (n := 75776) (by omega) (by omega) ?_
  refine va_putF (D := (dC, dI)) (ci := 3) (v := .ref q2) (ty := .array .byte) (C := "RequestCutterModel") (T := TX3) (N := 11) hx hb hts (fun w h => List.mem_cons_of_mem _ (inX3 w h)) tyX3 tyX3_ok nmX3 hown hK hP hD hS 0 rfl rfl 1 (by decide) (hts _ (List.mem_cons_of_mem _ tw_267)) (fun _ h9 => h9) rfl hin rfl (by decide +kernel) rfl rfl (Nat.le_of_ble_eq_true rfl) dX3_init_18 (fun H locs hP hD hS => ?_)
  have hP : va_P (dC, dI) vwCl [(m0, .inr (3, [.ref q1, .ref q2, .null, .null, .null, .int (iI (0)), .int (iI (0)), .int (iI (0)), .int (iI (0)), .int (iI (0)), .int (iI (0))])), (q1, .inl (cB, 10240, .inl (fun _ => 0))), (q2, .inl (cB, 65536, .inl (fun _ => 0)))] H := hP
  have hD : va_D A [(m0, .inr (3, [.ref q1, .ref q2, .null, .null, .null, .int (iI (0)), .int (iI (0)), .int (iI (0)), .int (iI (0)), .int (iI (0)), .int (iI (0))])), (q1, .inl (cB, 10240, .inl (fun _ => 0))), (q2, .inl (cB, 65536, .inl (fun _ => 0)))] := hD
  refine lv_aload_n hx hb dX3_init_21 rfl (lv_at hl 0 rfl) ?_
  refine lx_ldc (z := 65536) (v := 65536) hx hb hown (hts _ (List.mem_cons_of_mem _ tw_265)) (by decide) dX3_init_22 ?_
  refine va_newa (atype := .byte) (a0 := (65536, .inl (fun _ => 0))) (ty := .byte) hx hb (hts _ (List.mem_cons_of_mem _ tw_50)) rfl hK hP hD hS hA (fun _ => rfl) (iI_nn (by omega)) (by rw [iI_cl (by omega)]; omega) (by show 65536 * 1 ≤ 536870912; omega) (by show 2 + 1 ≤ 5; omega) (by show 75776 + 65536 ≤ 143362; omega) dX3_init_24 (fun q3 cA H hK1 hP hD hS => ?_)
  obtain rfl : cB = cA := vx_nmB hK1 0 2 rfl rfl
  have hP : va_P (dC, dI) vwCl [(m0, .inr (3, [.ref q1, .ref q2, .null, .null, .null, .int (iI (0)), .int (iI (0)), .int (iI (0)), .int (iI (0)), .int (iI (0)), .int (iI (0))])), (q1, .inl (cB, 10240, .inl (fun _ => 0))), (q2, .inl (cB, 65536, .inl (fun _ => 0))), (q3, .inl (cB, 65536, .inl (fun _ => 0)))] H := hP
  have hD : va_D A [(m0, .inr (3, [.ref q1, .ref q2, .null, .null, .null, .int (iI (0)), .int (iI (0)), .int (iI (0)), .int (iI (0)), .int (iI (0)), .int (iI (0))])), (q1, .inl (cB, 10240, .inl (fun _ => 0))), (q2, .inl (cB, 65536, .inl (fun _ => 0))), (q3, .inl (cB, 65536, .inl (fun _ => 0)))] := hD
  refine W.widen (k := 3) (n := 141312) (by omega) (by omega) ?_
  refine va_putF (D := (dC, dI)) (ci := 3) (v := .ref q3) (ty := .array .byte) (C := "RequestCutterModel") (T := TX3) (N := 11) hx hb hts (fun w h => List.mem_cons_of_mem _ (inX3 w h)) tyX3 tyX3_ok nmX3 hown hK hP hD hS 0 rfl rfl 2 (by decide) (hts _ (List.mem_cons_of_mem _ tw_268)) (fun _ h9 => h9) rfl hin rfl (by decide +kernel) rfl rfl (Nat.le_of_ble_eq_true rfl) dX3_init_26 (fun H locs hP hD hS => ?_)
  have hP : va_P (dC, dI) vwCl [(m0, .inr (3, [.ref q1, .ref q2, .ref q3, .null, .null, .int (iI (0)), .int (iI (0)), .int (iI (0)), .int (iI (0)), .int (iI (0)), .int (iI (0))])), (q1, .inl (cB, 10240, .inl (fun _ => 0))), (q2, .inl (cB, 65536, .inl (fun _ => 0))), (q3, .inl (cB, 65536, .inl (fun _ => 0)))] H := hP
  have hD : va_D A [(m0, .inr (3, [.ref q1, .ref q2, .ref q3, .null, .null, .int (iI (0)), .int (iI (0)), .int (iI (0)), .int (iI (0)), .int (iI (0)), .int (iI (0))])), (q1, .inl (cB, 10240, .inl (fun _ => 0))), (q2, .inl (cB, 65536, .inl (fun _ => 0))), (q3, .inl (cB, 65536, .inl (fun _ => 0)))] := hD
  refine lv_aload_n hx hb dX3_init_29 rfl (lv_at hl 0 rfl) ?_
  refine lv_sipush (v := iI (1025)) hx hb dX3_init_30 (by decide) ?_
  refine va_newa (atype := .int) (a0 := (1025, .inl (fun _ => 0))) (ty := .int) hx hb (hts _ (List.mem_cons_of_mem _ tw_74)) rfl hK hP hD hS hA (fun _ => rfl) (iI_nn (by omega)) (by rw [iI_cl (by omega)]; omega) (by show 1025 * 4 ≤ 536870912; omega) (by show 3 + 1 ≤ 5; omega) (by show 141312 + 1025 ≤ 143362; omega) dX3_init_33 (fun q4 cA H hK1 hP hD hS => ?_)
  obtain rfl : cI = cA := vx_nmI hK1 1 2 rfl rfl
  have hP : va_P (dC, dI) vwCl [(m0, .inr (3, [.ref q1, .ref q2, .ref q3, .null, .null, .int (iI (0)), .int (iI (0)), .int (iI (0)), .int (iI (0)), .int (iI (0)), .int (iI (0))])), (q1, .inl (cB, 10240, .inl (fun _ => 0))), (q2, .inl (cB, 65536, .inl (fun _ => 0))), (q3, .inl (cB, 65536, .inl (fun _ => 0))), (q4, .inl (cI, 1025, .inl (fun _ => 0)))] H := hP
  have hD : va_D A [(m0, .inr (3, [.ref q1, .ref q2, .ref q3, .null, .null, .int (iI (0)), .int (iI (0)), .int (iI (0)), .int (iI (0)), .int (iI (0)), .int (iI (0))])), (q1, .inl (cB, 10240, .inl (fun _ => 0))), (q2, .inl (cB, 65536, .inl (fun _ => 0))), (q3, .inl (cB, 65536, .inl (fun _ => 0))), (q4, .inl (cI, 1025, .inl (fun _ => 0)))] := hD
  refine W.widen (k := 4) (n := 142337) (by omega) (by omega) ?_
  refine va_putF (D := (dC, dI)) (ci := 3) (v := .ref q4) (ty := .array .int) (C := "RequestCutterModel") (T := TX3) (N := 11) hx hb hts (fun w h => List.mem_cons_of_mem _ (inX3 w h)) tyX3 tyX3_ok nmX3 hown hK hP hD hS 0 rfl rfl 3 (by decide) (hts _ (List.mem_cons_of_mem _ tw_269)) (fun _ h9 => h9) rfl hin rfl (by decide +kernel) rfl rfl (Nat.le_of_ble_eq_true rfl) dX3_init_35 (fun H locs hP hD hS => ?_)
  have hP : va_P (dC, dI) vwCl [(m0, .inr (3, [.ref q1, .ref q2, .ref q3, .ref q4, .null, .int (iI (0)), .int (iI (0)), .int (iI (0)), .int (iI (0)), .int (iI (0)), .int (iI (0))])), (q1, .inl (cB, 10240, .inl (fun _ => 0))), (q2, .inl (cB, 65536, .inl (fun _ => 0))), (q3, .inl (cB, 65536, .inl (fun _ => 0))), (q4, .inl (cI, 1025, .inl (fun _ => 0)))] H := hP
  have hD : va_D A [(m0, .inr (3, [.ref q1, .ref q2, .ref q3, .ref q4, .null, .int (iI (0)), .int (iI (0)), .int (iI (0)), .int (iI (0)), .int (iI (0)), .int (iI (0))])), (q1, .inl (cB, 10240, .inl (fun _ => 0))), (q2, .inl (cB, 65536, .inl (fun _ => 0))), (q3, .inl (cB, 65536, .inl (fun _ => 0))), (q4, .inl (cI, 1025, .inl (fun _ => 0)))] := hD
  refine lv_aload_n hx hb dX3_init_38 rfl (lv_at hl 0 rfl) ?_
  refine lv_sipush (v := iI (1025)) hx hb dX3_init_39 (by decide) ?_
  refine va_newa (atype := .int) (a0 := (1025, .inl (fun _ => 0))) (ty := .int) hx hb (hts _ (List.mem_cons_of_mem _ tw_74)) rfl hK hP hD hS hA (fun _ => rfl) (iI_nn (by omega)) (by rw [iI_cl (by omega)]; omega) (by show 1025 * 4 ≤ 536870912; omega) (by show 4 + 1 ≤ 5; omega) (by show 142337 + 1025 ≤ 143362; omega) dX3_init_42 (fun q5 cA H hK1 hP hD hS => ?_)
  obtain rfl : cI = cA := vx_nmI hK1 1 2 rfl rfl
  have hP : va_P (dC, dI) vwCl [(m0, .inr (3, [.ref q1, .ref q2, .ref q3, .ref q4, .null, .int (iI (0)), .int (iI (0)), .int (iI (0)), .int (iI (0)), .int (iI (0)), .int (iI (0))])), (q1, .inl (cB, 10240, .inl (fun _ => 0))), (q2, .inl (cB, 65536, .inl (fun _ => 0))), (q3, .inl (cB, 65536, .inl (fun _ => 0))), (q4, .inl (cI, 1025, .inl (fun _ => 0))), (q5, .inl (cI, 1025, .inl (fun _ => 0)))] H := hP
  have hD : va_D A [(m0, .inr (3, [.ref q1, .ref q2, .ref q3, .ref q4, .null, .int (iI (0)), .int (iI (0)), .int (iI (0)), .int (iI (0)), .int (iI (0)), .int (iI (0))])), (q1, .inl (cB, 10240, .inl (fun _ => 0))), (q2, .inl (cB, 65536, .inl (fun _ => 0))), (q3, .inl (cB, 65536, .inl (fun _ => 0))), (q4, .inl (cI, 1025, .inl (fun _ => 0))), (q5, .inl (cI, 1025, .inl (fun _ => 0)))] := hD
  refine W.widen (k := 5) (n := 143362) (by omega) (by omega) ?_
  refine va_putF (D := (dC, dI)) (ci := 3) (v := .ref q5) (ty := .array .int) (C := "RequestCutterModel") (T := TX3) (N := 11) hx hb hts (fun w h => List.mem_cons_of_mem _ (inX3 w h)) tyX3 tyX3_ok nmX3 hown hK hP hD hS 0 rfl rfl 4 (by decide) (hts _ (List.mem_cons_of_mem _ tw_270)) (fun _ h9 => h9) rfl hin rfl (by decide +kernel) rfl rfl (Nat.le_of_ble_eq_true rfl) dX3_init_44 (fun H locs hP hD hS => ?_)
  have hP : va_P (dC, dI) vwCl [(m0, .inr (3, [.ref q1, .ref q2, .ref q3, .ref q4, .ref q5, .int (iI (0)), .int (iI (0)), .int (iI (0)), .int (iI (0)), .int (iI (0)), .int (iI (0))])), (q1, .inl (cB, 10240, .inl (fun _ => 0))), (q2, .inl (cB, 65536, .inl (fun _ => 0))), (q3, .inl (cB, 65536, .inl (fun _ => 0))), (q4, .inl (cI, 1025, .inl (fun _ => 0))), (q5, .inl (cI, 1025, .inl (fun _ => 0)))] H := hP
  have hD : va_D A [(m0, .inr (3, [.ref q1, .ref q2, .ref q3, .ref q4, .ref q5, .int (iI (0)), .int (iI (0)), .int (iI (0)), .int (iI (0)), .int (iI (0)), .int (iI (0))])), (q1, .inl (cB, 10240, .inl (fun _ => 0))), (q2, .inl (cB, 65536, .inl (fun _ => 0))), (q3, .inl (cB, 65536, .inl (fun _ => 0))), (q4, .inl (cI, 1025, .inl (fun _ => 0))), (q5, .inl (cI, 1025, .inl (fun _ => 0)))] := hD
  exact W.vret hx hb hr (fun t ht hW => ⟨⟨(q1, q2, q3, q4, q5), rfl, trivial, by rw [ht]; exact hP, va_K.moved hW.alike hK, hD⟩, hS.F ht⟩) hS.2.2 dX3_init_47
