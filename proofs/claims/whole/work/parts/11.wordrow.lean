set_option maxHeartbeats 4000000 in
set_option maxRecDepth 100000 in
/-- WordRow.count() -/
theorem c_X1_count (l : Launch) (dC : Nat → ClassId) (dI : Nat → Nat → Nat) (cB cI : ClassId) (h wb s1 s2 cnt : Nat) : Met l yX1_count wX1_count ({ frames := 0, cells := 0, slots := 0, locals := 0 }) (va_Pc [.ref h] (vx_R (dC, dI) vwCl [(cB, .byte), (cI, .int)] [(h, .inr (1, [.ref wb, .ref s1, .ref s2, .int (iI ((cnt : Int)))]))])) (vp_Si (fun r => r = iI (cnt : Int))) 0 0 (fun _ => False) := by
  refine Met.ofW (cc := cX1_count) (maxL := 1) (ret := (some .int)) (by decide) rfl ?_
  intro p e s m args below meth c s₁ B hml hv
  obtain ⟨rfl, hP, hK⟩ := hv
  have hx := B.exec
  have hb := B.bytes
  have hr := B.returns
  have hts := atoms_spec (ws := wX1_count) B.pre
  have hown : s.vm.findClass "RequestCutter$WordRow" = some m.cls := findClass_of_methodNamed B.named
  have hlocks := B.notSynchronized
  have hP : va_P (dC, dI) vwCl [(h, .inr (1, [.ref wb, .ref s1, .ref s2, .int (iI ((cnt : Int)))]))] s.heap := hP
  have hl := lv_entry ([.ref h]) (n := 1) (Nat.le_of_ble_eq_true rfl)
  rw [lg_entry_eq]
  generalize (lg_sl ([.ref h]) ++ List.replicate (1 - (lg_sl ([.ref h])).length) Slot.unset).toArray = ls at hl ⊢
  have hl : lv_has ls 1 [(0, .ref h)] := hl
  refine lv_aload_n hx hb dX1_count_0 rfl (lv_at hl 0 rfl) ?_
  refine va_get (D := (dC, dI)) (ci := 1) (v := .int (iI ((cnt : Int)))) (C := "RequestCutter$WordRow") (T := TX1) (N := 4) hx hb hts (fun w h => List.mem_cons_of_mem _ (inX1 w h)) hown hK hP 0 rfl rfl 3 (by decide) (hts _ (List.mem_cons_of_mem _ tw_64)) (fun _ h9 => h9) rfl dX1_count_1 ?_
  exact W.iret (v := iI ((cnt : Int))) hx hb hr (fun t ht hW => ⟨iI ((cnt : Int)), rfl, rfl, ht⟩) (fun _ h => by cases h) dX1_count_4
set_option maxHeartbeats 4000000 in
set_option maxRecDepth 100000 in
/-- WordRow.clear() -/
theorem c_X1_clear (l : Launch) (dC : Nat → ClassId) (dI : Nat → Nat → Nat) (cB cI : ClassId) (sz : Nat) (h wb s1 s2 cnt wq wlim wc : Nat) : Met l yX1_clear wX1_clear ({ frames := 1, cells := 0, slots := 0, locals := 20 }) (va_Pc [.ref h] (vx_B (dC, dI) vwCl [(cB, .byte), (cI, .int)] [(h, .inr (1, [.ref wb, .ref s1, .ref s2, .int (iI ((cnt : Int)))])), (wb, .inr (0, [.int (iI ((wlim : Int))), .ref wq, .int (iI ((wc : Int)))]))] sz)) (va_Qv (fun (u : Unit) => True) (fun (u : Unit) => vx_E (dC, dI) vwCl [(cB, .byte), (cI, .int)] (va_A [(h, .inr (1, [.ref wb, .ref s1, .ref s2, .int (iI ((cnt : Int)))])), (wb, .inr (0, [.int (iI ((wlim : Int))), .ref wq, .int (iI ((wc : Int)))]))] sz) [(h, .inr (1, [.ref wb, .ref s1, .ref s2, .int (iI (0))])), (wb, .inr (0, [.int (iI ((wlim : Int))), .ref wq, .int (iI (0))]))]) (va_A [(h, .inr (1, [.ref wb, .ref s1, .ref s2, .int (iI ((cnt : Int)))])), (wb, .inr (0, [.int (iI ((wlim : Int))), .ref wq, .int (iI ((wc : Int)))]))] sz)) (0) (0) (va_A [(h, .inr (1, [.ref wb, .ref s1, .ref s2, .int (iI ((cnt : Int)))])), (wb, .inr (0, [.int (iI ((wlim : Int))), .ref wq, .int (iI ((wc : Int)))]))] sz) := by
  refine Met.ofW (cc := cX1_clear) (maxL := 1) (ret := none) (by decide) rfl ?_
  intro p e s m args below meth c s₁ B hml hv
  obtain ⟨rfl, hsz, hP, hK, hD0⟩ := hv
  have hx := B.exec
  have hb := B.bytes
  have hr := B.returns
  have hts := atoms_spec (ws := wX1_clear) B.pre
  have hown : s.vm.findClass "RequestCutter$WordRow" = some m.cls := findClass_of_methodNamed B.named
  have hlocks := B.notSynchronized
  subst hsz
  have hD := hD0.self (sz := s.heap.size)
  generalize hAe : va_A [(h, .inr (1, [.ref wb, .ref s1, .ref s2, .int (iI ((cnt : Int)))])), (wb, .inr (0, [.int (iI ((wlim : Int))), .ref wq, .int (iI ((wc : Int)))]))] s.heap.size = A at hD ⊢
  have hA : ∀ q : Nat, s.heap.size ≤ q → A q := fun q h => by rw [← hAe]; exact Or.inr h
  have hS : va_S A s.heap s.heap [] := va_S.rf
  have hP : va_P (dC, dI) vwCl [(h, .inr (1, [.ref wb, .ref s1, .ref s2, .int (iI ((cnt : Int)))])), (wb, .inr (0, [.int (iI ((wlim : Int))), .ref wq, .int (iI ((wc : Int)))]))] s.heap := hP
  have hl := lv_entry ([.ref h]) (n := 1) (Nat.le_of_ble_eq_true rfl)
  rw [lg_entry_eq]
  generalize (lg_sl ([.ref h]) ++ List.replicate (1 - (lg_sl ([.ref h])).length) Slot.unset).toArray = ls at hl ⊢
  have hl : lv_has ls 1 [(0, .ref h)] := hl
  refine lv_aload_n hx hb dX1_clear_0 rfl (lv_at hl 0 rfl) ?_
  refine lv_iconst (v := iI (0)) hx hb dX1_clear_1 rfl ?_
  refine va_put (D := (dC, dI)) (ci := 1) (v := .int (iI (0))) (ty := .int) (C := "RequestCutter$WordRow") (T := TX1) (N := 4) hx hb hts (fun w h => List.mem_cons_of_mem _ (inX1 w h)) tyX1 tyX1_ok nmX1 hown hK hP hD hS 0 rfl rfl 3 (by decide) (hts _ (List.mem_cons_of_mem _ tw_64)) (fun _ h9 => h9) rfl (by decide +kernel) rfl rfl (Nat.le_of_ble_eq_true rfl) dX1_clear_2 (fun H locs hP hD hS => ?_)
  have hP : va_P (dC, dI) vwCl [(h, .inr (1, [.ref wb, .ref s1, .ref s2, .int (iI (0))])), (wb, .inr (0, [.int (iI ((wlim : Int))), .ref wq, .int (iI ((wc : Int)))]))] H := hP
  have hD : va_D A [(h, .inr (1, [.ref wb, .ref s1, .ref s2, .int (iI (0))])), (wb, .inr (0, [.int (iI ((wlim : Int))), .ref wq, .int (iI ((wc : Int)))]))] := hD
  refine lv_aload_n hx hb dX1_clear_5 rfl (lv_at hl 0 rfl) ?_
  refine va_get (D := (dC, dI)) (ci := 1) (v := .ref wb) (C := "RequestCutter$WordRow") (T := TX1) (N := 4) hx hb hts (fun w h => List.mem_cons_of_mem _ (inX1 w h)) hown hK hP 0 rfl rfl 0 (by decide) (hts _ (List.mem_cons_of_mem _ tw_61)) (fun _ h9 => h9) rfl dX1_clear_6 ?_
  refine vx_Vv (As := []) (rest := []) (wr := [(h, .inr (1, [.ref wb, .ref s1, .ref s2, .int (iI (0))]))]) (ci := 0) (q0 := 0) [1] [0] ⟨hx, hb, hml, hown, hts⟩ (c_X0_clear l dC dI cB cI _ wb wq wlim wc) (cwV 0 hts (gd_V tw_157 tw_146 tw_147 tw_20 tw_148) rfl rfl rfl (by decide +kernel) ⟨Nat.le_of_ble_eq_true rfl, Nat.le_of_ble_eq_true rfl⟩) hK hP hD hS hA rfl rfl rfl rfl (by decide) rfl rfl rfl rfl hl.1 rfl (Nat.le_of_ble_eq_true rfl) dX1_clear_9 ⟨Nat.zero_le _, Nat.zero_le _⟩ (fun u H locs hw hP hD hS => ?_)
  obtain - := u
  try dsimp only at hw hP hD
  obtain - := hw
  have hP : va_P (dC, dI) vwCl [(h, .inr (1, [.ref wb, .ref s1, .ref s2, .int (iI (0))])), (wb, .inr (0, [.int (iI ((wlim : Int))), .ref wq, .int (iI (0))]))] H := hP.sub [0, 1] rfl
  have hD : va_D A [(h, .inr (1, [.ref wb, .ref s1, .ref s2, .int (iI (0))])), (wb, .inr (0, [.int (iI ((wlim : Int))), .ref wq, .int (iI (0))]))] := hD.sub [0, 1] (by decide) rfl
  exact W.vret hx hb hr (fun t ht hW => ⟨⟨(), rfl, trivial, by rw [ht]; exact hP, va_K.moved hW.alike hK, hD⟩, hS.F ht⟩) hS.2.2 dX1_clear_12
set_option maxHeartbeats 4000000 in
set_option maxRecDepth 100000 in
/-- WordRow.add(start, size) -/
theorem c_X1_add (l : Launch) (dC : Nat → ClassId) (dI : Nat → Nat → Nat) (cB cI : ClassId) (sz : Nat) (h wb s1 s2 nl cnt : Nat) (sa za : Nat → Int) (hc : cnt ≤ nl) (hn : 8 ≤ nl ∧ nl ≤ 1024) (x1 x2 : Int) (mc ms : Nat) (hroom : cnt < 1024 ∧ nl ≤ cnt → 2 ≤ mc ∧ 2 * min 1024 (2 * cnt) ≤ ms) : Met l yX1_add wX1_add ({ frames := 2, cells := mc, slots := ms, locals := 70 }) (va_Pc [.ref h, .int (iI (x1)), .int (iI (x2))] (vx_B (dC, dI) vwCl [(cB, .byte), (cI, .int)] [(h, .inr (1, [.ref wb, .ref s1, .ref s2, .int (iI ((cnt : Int)))])), (s1, .inl (cI, nl, .inl (fun k => iI (sa k)))), (s2, .inl (cI, nl, .inl (fun k => iI (za k))))] sz)) (va_Qv (fun (u : Nat × Nat × Nat × Nat × (Nat → Int) × (Nat → Int)) => (8 ≤ u.2.2.1 ∧ u.2.2.1 ≤ 1024) ∧ u.2.2.2.1 ≤ u.2.2.1 ∧ ((¬ (cnt < 1024 ∧ nl ≤ cnt) ∧ u.2.2.1 = nl) ∨ ((cnt < 1024 ∧ nl ≤ cnt) ∧ u.2.2.1 = min 1024 (2 * cnt))) ∧ ((cnt < 1024 ∧ u.2.2.2.1 = cnt + 1) ∨ (¬ cnt < 1024 ∧ u.2.2.2.1 = cnt)) ∧ (∀ j, j < cnt → u.2.2.2.2.1 j = sa j ∧ u.2.2.2.2.2 j = za j) ∧ (cnt < 1024 → u.2.2.2.2.1 cnt = x1 ∧ u.2.2.2.2.2 cnt = x2)) (fun (u : Nat × Nat × Nat × Nat × (Nat → Int) × (Nat → Int)) => vx_E (dC, dI) vwCl [(cB, .byte), (cI, .int)] (va_A [(h, .inr (1, [.ref wb, .ref s1, .ref s2, .int (iI ((cnt : Int)))])), (s1, .inl (cI, nl, .inl (fun k => iI (sa k)))), (s2, .inl (cI, nl, .inl (fun k => iI (za k))))] sz) [(h, .inr (1, [.ref wb, .ref u.1, .ref u.2.1, .int (iI ((u.2.2.2.1 : Int)))])), (u.1, .inl (cI, u.2.2.1, .inl (fun k => iI (u.2.2.2.2.1 k)))), (u.2.1, .inl (cI, u.2.2.1, .inl (fun k => iI (u.2.2.2.2.2 k))))]) (va_A [(h, .inr (1, [.ref wb, .ref s1, .ref s2, .int (iI ((cnt : Int)))])), (s1, .inl (cI, nl, .inl (fun k => iI (sa k)))), (s2, .inl (cI, nl, .inl (fun k => iI (za k))))] sz)) (mc) (ms) (va_A [(h, .inr (1, [.ref wb, .ref s1, .ref s2, .int (iI ((cnt : Int)))])), (s1, .inl (cI, nl, .inl (fun k => iI (sa k)))), (s2, .inl (cI, nl, .inl (fun k => iI (za k))))] sz) := by
  refine Met.ofW (cc := cX1_add) (maxL := 4) (ret := none) (by decide) rfl ?_
  intro p e s m args below meth c s₁ B hml hv
  obtain ⟨rfl, hsz, hP, hK, hD0⟩ := hv
  have hx := B.exec
  have hb := B.bytes
  have hr := B.returns
  have hts := atoms_spec (ws := wX1_add) B.pre
  have hown : s.vm.findClass "RequestCutter$WordRow" = some m.cls := findClass_of_methodNamed B.named
  have hlocks := B.notSynchronized
  subst hsz
  have hD := hD0.self (sz := s.heap.size)
  generalize hAe : va_A [(h, .inr (1, [.ref wb, .ref s1, .ref s2, .int (iI ((cnt : Int)))])), (s1, .inl (cI, nl, .inl (fun k => iI (sa k)))), (s2, .inl (cI, nl, .inl (fun k => iI (za k))))] s.heap.size = A at hD ⊢
  have hA : ∀ q : Nat, s.heap.size ≤ q → A q := fun q h => by rw [← hAe]; exact Or.inr h
  have hS : va_S A s.heap s.heap [] := va_S.rf
  have hP : va_P (dC, dI) vwCl [(h, .inr (1, [.ref wb, .ref s1, .ref s2, .int (iI ((cnt : Int)))])), (s1, .inl (cI, nl, .inl (fun k => iI (sa k)))), (s2, .inl (cI, nl, .inl (fun k => iI (za k))))] s.heap := hP
  have hl := lv_entry ([.ref h, .int (iI (x1)), .int (iI (x2))]) (n := 4) (Nat.le_of_ble_eq_true rfl)
  rw [lg_entry_eq]
  generalize (lg_sl ([.ref h, .int (iI (x1)), .int (iI (x2))]) ++ List.replicate (4 - (lg_sl ([.ref h, .int (iI (x1)), .int (iI (x2))])).length) Slot.unset).toArray = ls at hl ⊢
  have hl : lv_has ls 4 [(0, .ref h), (1, .int (iI (x1))), (2, .int (iI (x2)))] := hl
  refine lv_aload_n hx hb dX1_add_0 rfl (lv_at hl 0 rfl) ?_
  refine va_get (D := (dC, dI)) (ci := 1) (v := .int (iI ((cnt : Int)))) (C := "RequestCutter$WordRow") (T := TX1) (N := 4) hx hb hts (fun w h => List.mem_cons_of_mem _ (inX1 w h)) hown hK hP 0 rfl rfl 3 (by decide) (hts _ (List.mem_cons_of_mem _ tw_64)) (fun _ h9 => h9) rfl dX1_add_1 ?_
  refine lv_sipush (v := iI (1024)) hx hb dX1_add_4 (by decide) ?_
  refine lx_icmp_lt (a := (cnt : Int)) (b := 1024) (tgt := 11) hx hb dX1_add_7 (by decide) (by omega) (by omega) (fun cq1 => ?_) (fun cq1 => ?_)
  · refine lv_aload_n hx hb dX1_add_11 rfl (lv_at hl 0 rfl) ?_
    refine va_get (D := (dC, dI)) (ci := 1) (v := .int (iI ((cnt : Int)))) (C := "RequestCutter$WordRow") (T := TX1) (N := 4) hx hb hts (fun w h => List.mem_cons_of_mem _ (inX1 w h)) hown hK hP 0 rfl rfl 3 (by decide) (hts _ (List.mem_cons_of_mem _ tw_64)) (fun _ h9 => h9) rfl dX1_add_12 ?_
    refine lv_aload_n hx hb dX1_add_15 rfl (lv_at hl 0 rfl) ?_
    refine va_get (D := (dC, dI)) (ci := 1) (v := .ref s1) (C := "RequestCutter$WordRow") (T := TX1) (N := 4) hx hb hts (fun w h => List.mem_cons_of_mem _ (inX1 w h)) hown hK hP 0 rfl rfl 1 (by decide) (hts _ (List.mem_cons_of_mem _ tw_62)) (fun _ h9 => h9) rfl dX1_add_16 ?_
    refine va_alen (v := iI ((nl : Nat) : Int)) hx hb hK hP 1 1 rfl rfl (iI_nat _) dX1_add_19 ?_
    refine lx_icmp_ge (a := (cnt : Int)) (b := ((nl : Nat) : Int)) (tgt := 35) hx hb dX1_add_20 (by decide) (by omega) (by omega) (fun cq2 => ?_) (fun cq2 => ?_)
    · obtain ⟨N, hN⟩ : ∃ N : Nat, N = min 1024 (2 * cnt) := ⟨_, rfl⟩
      have hR := hroom (by omega)
      refine lv_sipush (v := iI (1024)) hx hb dX1_add_35 (by decide) ?_
      refine lv_iconst (v := iI (2)) hx hb dX1_add_38 rfl ?_
      refine lv_aload_n hx hb dX1_add_39 rfl (lv_at hl 0 rfl) ?_
      refine va_get (D := (dC, dI)) (ci := 1) (v := .int (iI ((cnt : Int)))) (C := "RequestCutter$WordRow") (T := TX1) (N := 4) hx hb hts (fun w h => List.mem_cons_of_mem _ (inX1 w h)) hown hK hP 0 rfl rfl 3 (by decide) (hts _ (List.mem_cons_of_mem _ tw_64)) (fun _ h9 => h9) rfl dX1_add_40 ?_
      refine lx_imul (a := 2) (b := (cnt : Int)) hx hb dX1_add_43 ?_
      refine lx_min (a := 1024) (b := 2 * ((cnt : Int))) hx hb (by rw [hml]; exact hl.1.symm) hown (hts _ (List.mem_cons_of_mem _ tw_191)) (hts _ (List.mem_cons_of_mem _ tw_103)) (hts _ (List.mem_cons_of_mem _ tw_23)) (hts _ (List.mem_cons_of_mem _ tw_104)) (Nat.le_of_ble_eq_true rfl) (Nat.le_of_ble_eq_true rfl) (Nat.zero_le _) (Nat.zero_le _) (by omega) (by omega) dX1_add_44 ?_
      refine lv_istore_n (lv' := [(3, .int (iI (min (1024) (2 * ((cnt : Int)))))), (0, .ref h), (1, .int (iI (x1))), (2, .int (iI (x2)))]) hx hb dX1_add_47 rfl hl (by decide) rfl (fun ls hl => ?_)
      refine lv_aload_n hx hb dX1_add_48 rfl (lv_at hl 1 rfl) ?_
      refine lv_aload_n hx hb dX1_add_49 rfl (lv_at hl 1 rfl) ?_
      refine va_get (D := (dC, dI)) (ci := 1) (v := .ref s1) (C := "RequestCutter$WordRow") (T := TX1) (N := 4) hx hb hts (fun w h => List.mem_cons_of_mem _ (inX1 w h)) hown hK hP 0 rfl rfl 1 (by decide) (hts _ (List.mem_cons_of_mem _ tw_62)) (fun _ h9 => h9) rfl dX1_add_50 ?_
      refine lv_iload_n hx hb dX1_add_53 rfl (lv_at hl 0 rfl) ?_
      refine lx_top (x2 := iI (N : Int)) (congrArg iI (by omega)) ?_
      refine vx_Sr (As := [.ref s1, .int (iI ((N : Int)))]) (rest := [.ref h]) (wr := [(h, .inr (1, [.ref wb, .ref s1, .ref s2, .int (iI ((cnt : Int)))])), (s2, .inl (cI, nl, .inl (fun k => iI (za k))))]) [1] [0, 2] ⟨hx, hb, hml, hown, hts⟩ (c_J7_copyI l dC dI cB cI _ s1 nl N (fun k => iI (sa k)) (by omega) (by omega)) (va_cwS 2 hts (gd_S tw_192 tw_193 tw_24 tw_194) rfl rfl rfl (by decide +kernel) ⟨Nat.le_of_ble_eq_true rfl, Nat.le_of_ble_eq_true rfl⟩) hK hP hD hS hA rfl rfl rfl rfl (by decide) rfl hl.1 rfl (Nat.le_of_ble_eq_true rfl) dX1_add_54 ⟨by show 0 + 1 ≤ mc; omega, by show 0 + N ≤ ms; omega⟩ (fun u q3 H locs hw hP hD hS => ?_)
      have hP : va_P (dC, dI) vwCl [(h, .inr (1, [.ref wb, .ref s1, .ref s2, .int (iI ((cnt : Int)))])), (s1, .inl (cI, nl, .inl (fun k => iI (sa k)))), (s2, .inl (cI, nl, .inl (fun k => iI (za k)))), (q3, .inl (cI, N, .inl (va_cpy (fun k => iI (sa k)) (fun _ => 0) 0 0 nl)))] H := hP.sub [0, 2, 1, 3] rfl
      have hD : va_D A [(h, .inr (1, [.ref wb, .ref s1, .ref s2, .int (iI ((cnt : Int)))])), (s1, .inl (cI, nl, .inl (fun k => iI (sa k)))), (s2, .inl (cI, nl, .inl (fun k => iI (za k)))), (q3, .inl (cI, N, .inl (va_cpy (fun k => iI (sa k)) (fun _ => 0) 0 0 nl)))] := hD.sub [0, 2, 1, 3] (by decide) rfl
      refine W.widen (k := 1) (n := N) (by omega) (by omega) ?_
      rw [cp_iI] at hP hD
      refine va_put (D := (dC, dI)) (ci := 1) (v := .ref q3) (ty := .array .int) (C := "RequestCutter$WordRow") (T := TX1) (N := 4) hx hb hts (fun w h => List.mem_cons_of_mem _ (inX1 w h)) tyX1 tyX1_ok nmX1 hown hK hP hD hS 0 rfl rfl 1 (by decide) (hts _ (List.mem_cons_of_mem _ tw_62)) (fun _ h9 => h9) rfl (by decide +kernel) rfl rfl (Nat.le_of_ble_eq_true rfl) dX1_add_57 (fun H locs hP hD hS => ?_)
      have hP : va_P (dC, dI) vwCl [(h, .inr (1, [.ref wb, .ref q3, .ref s2, .int (iI ((cnt : Int)))])), (s1, .inl (cI, nl, .inl (fun k => iI (sa k)))), (s2, .inl (cI, nl, .inl (fun k => iI (za k)))), (q3, .inl (cI, N, .inl (fun k => iI (cpyZ sa nl k))))] H := hP
      have hD : va_D A [(h, .inr (1, [.ref wb, .ref q3, .ref s2, .int (iI ((cnt : Int)))])), (s1, .inl (cI, nl, .inl (fun k => iI (sa k)))), (s2, .inl (cI, nl, .inl (fun k => iI (za k)))), (q3, .inl (cI, N, .inl (fun k => iI (cpyZ sa nl k))))] := hD
      refine lv_aload_n hx hb dX1_add_60 rfl (lv_at hl 1 rfl) ?_
      refine lv_aload_n hx hb dX1_add_61 rfl (lv_at hl 1 rfl) ?_
      refine va_get (D := (dC, dI)) (ci := 1) (v := .ref s2) (C := "RequestCutter$WordRow") (T := TX1) (N := 4) hx hb hts (fun w h => List.mem_cons_of_mem _ (inX1 w h)) hown hK hP 0 rfl rfl 2 (by decide) (hts _ (List.mem_cons_of_mem _ tw_63)) (fun _ h9 => h9) rfl dX1_add_62 ?_
      refine lv_iload_n hx hb dX1_add_65 rfl (lv_at hl 0 rfl) ?_
      refine lx_top (x2 := iI (N : Int)) (congrArg iI (by omega)) ?_
      refine vx_Sr (As := [.ref s2, .int (iI ((N : Int)))]) (rest := [.ref h]) (wr := [(h, .inr (1, [.ref wb, .ref q3, .ref s2, .int (iI ((cnt : Int)))])), (s1, .inl (cI, nl, .inl (fun k => iI (sa k)))), (q3, .inl (cI, N, .inl (fun k => iI (cpyZ sa nl k))))]) [2] [0, 1, 3] ⟨hx, hb, hml, hown, hts⟩ (c_J7_copyI l dC dI cB cI _ s2 nl N (fun k => iI (za k)) (by omega) (by omega)) (va_cwS 2 hts (gd_S tw_192 tw_193 tw_24 tw_194) rfl rfl rfl (by decide +kernel) ⟨Nat.le_of_ble_eq_true rfl, Nat.le_of_ble_eq_true rfl⟩) hK hP hD hS hA rfl rfl rfl rfl (by decide) rfl hl.1 rfl (Nat.le_of_ble_eq_true rfl) dX1_add_66 ⟨by show 1 + 1 ≤ mc; omega, by show N + N ≤ ms; omega⟩ (fun u q4 H locs hw hP hD hS => ?_)
      have hP : va_P (dC, dI) vwCl [(h, .inr (1, [.ref wb, .ref q3, .ref s2, .int (iI ((cnt : Int)))])), (s1, .inl (cI, nl, .inl (fun k => iI (sa k)))), (s2, .inl (cI, nl, .inl (fun k => iI (za k)))), (q3, .inl (cI, N, .inl (fun k => iI (cpyZ sa nl k)))), (q4, .inl (cI, N, .inl (va_cpy (fun k => iI (za k)) (fun _ => 0) 0 0 nl)))] H := hP.sub [0, 1, 3, 2, 4] rfl
      have hD : va_D A [(h, .inr (1, [.ref wb, .ref q3, .ref s2, .int (iI ((cnt : Int)))])), (s1, .inl (cI, nl, .inl (fun k => iI (sa k)))), (s2, .inl (cI, nl, .inl (fun k => iI (za k)))), (q3, .inl (cI, N, .inl (fun k => iI (cpyZ sa nl k)))), (q4, .inl (cI, N, .inl (va_cpy (fun k => iI (za k)) (fun _ => 0) 0 0 nl)))] := hD.sub [0, 1, 3, 2, 4] (by decide) rfl
      rw [cp_iI] at hP hD
      refine va_put (D := (dC, dI)) (ci := 1) (v := .ref q4) (ty := .array .int) (C := "RequestCutter$WordRow") (T := TX1) (N := 4) hx hb hts (fun w h => List.mem_cons_of_mem _ (inX1 w h)) tyX1 tyX1_ok nmX1 hown hK hP hD hS 0 rfl rfl 2 (by decide) (hts _ (List.mem_cons_of_mem _ tw_63)) (fun _ h9 => h9) rfl (by decide +kernel) rfl rfl (Nat.le_of_ble_eq_true rfl) dX1_add_69 (fun H locs hP hD hS => ?_)
      have hP : va_P (dC, dI) vwCl [(h, .inr (1, [.ref wb, .ref q3, .ref q4, .int (iI ((cnt : Int)))])), (s1, .inl (cI, nl, .inl (fun k => iI (sa k)))), (s2, .inl (cI, nl, .inl (fun k => iI (za k)))), (q3, .inl (cI, N, .inl (fun k => iI (cpyZ sa nl k)))), (q4, .inl (cI, N, .inl (fun k => iI (cpyZ za nl k))))] H := hP
      have hD : va_D A [(h, .inr (1, [.ref wb, .ref q3, .ref q4, .int (iI ((cnt : Int)))])), (s1, .inl (cI, nl, .inl (fun k => iI (sa k)))), (s2, .inl (cI, nl, .inl (fun k => iI (za k)))), (q3, .inl (cI, N, .inl (fun k => iI (cpyZ sa nl k)))), (q4, .inl (cI, N, .inl (fun k => iI (cpyZ za nl k))))] := hD
      refine W.widen (k := mc) (n := ms) (by omega) (by omega) ?_
      refine lv_aload_n hx hb dX1_add_72 rfl (lv_at hl 1 rfl) ?_
      refine va_get (D := (dC, dI)) (ci := 1) (v := .ref q3) (C := "RequestCutter$WordRow") (T := TX1) (N := 4) hx hb hts (fun w h => List.mem_cons_of_mem _ (inX1 w h)) hown hK hP 0 rfl rfl 1 (by decide) (hts _ (List.mem_cons_of_mem _ tw_62)) (fun _ h9 => h9) rfl dX1_add_73 ?_
      refine lv_aload_n hx hb dX1_add_76 rfl (lv_at hl 1 rfl) ?_
      refine va_get (D := (dC, dI)) (ci := 1) (v := .int (iI ((cnt : Int)))) (C := "RequestCutter$WordRow") (T := TX1) (N := 4) hx hb hts (fun w h => List.mem_cons_of_mem _ (inX1 w h)) hown hK hP 0 rfl rfl 3 (by decide) (hts _ (List.mem_cons_of_mem _ tw_64)) (fun _ h9 => h9) rfl dX1_add_77 ?_
      refine lv_iload_n hx hb dX1_add_80 rfl (lv_at hl 2 rfl) ?_
      refine lx_iast (x := iI (x1)) (i := (cnt : Int)) hx hb hK hP hD hS 3 1 rfl rfl (cnt) (by omega) (by omega) dX1_add_81 (fun H locs hP hD hS => ?_)
      have hP : va_P (dC, dI) vwCl [(h, .inr (1, [.ref wb, .ref q3, .ref q4, .int (iI ((cnt : Int)))])), (s1, .inl (cI, nl, .inl (fun k => iI (sa k)))), (s2, .inl (cI, nl, .inl (fun k => iI (za k)))), (q3, .inl (cI, N, .inl (upd (fun k => iI (cpyZ sa nl k)) (cnt) (iI (x1))))), (q4, .inl (cI, N, .inl (fun k => iI (cpyZ za nl k))))] H := hP
      have hD : va_D A [(h, .inr (1, [.ref wb, .ref q3, .ref q4, .int (iI ((cnt : Int)))])), (s1, .inl (cI, nl, .inl (fun k => iI (sa k)))), (s2, .inl (cI, nl, .inl (fun k => iI (za k)))), (q3, .inl (cI, N, .inl (upd (fun k => iI (cpyZ sa nl k)) (cnt) (iI (x1))))), (q4, .inl (cI, N, .inl (fun k => iI (cpyZ za nl k))))] := hD
      rw [up_iI] at hP hD
      refine lv_aload_n hx hb dX1_add_82 rfl (lv_at hl 1 rfl) ?_
      refine va_get (D := (dC, dI)) (ci := 1) (v := .ref q4) (C := "RequestCutter$WordRow") (T := TX1) (N := 4) hx hb hts (fun w h => List.mem_cons_of_mem _ (inX1 w h)) hown hK hP 0 rfl rfl 2 (by decide) (hts _ (List.mem_cons_of_mem _ tw_63)) (fun _ h9 => h9) rfl dX1_add_83 ?_
      refine lv_aload_n hx hb dX1_add_86 rfl (lv_at hl 1 rfl) ?_
      refine va_get (D := (dC, dI)) (ci := 1) (v := .int (iI ((cnt : Int)))) (C := "RequestCutter$WordRow") (T := TX1) (N := 4) hx hb hts (fun w h => List.mem_cons_of_mem _ (inX1 w h)) hown hK hP 0 rfl rfl 3 (by decide) (hts _ (List.mem_cons_of_mem _ tw_64)) (fun _ h9 => h9) rfl dX1_add_87 ?_
      refine lv_iload_n hx hb dX1_add_90 rfl (lv_at hl 3 rfl) ?_
      refine lx_iast (x := iI (x2)) (i := (cnt : Int)) hx hb hK hP hD hS 4 1 rfl rfl (cnt) (by omega) (by omega) dX1_add_91 (fun H locs hP hD hS => ?_)
      have hP : va_P (dC, dI) vwCl [(h, .inr (1, [.ref wb, .ref q3, .ref q4, .int (iI ((cnt : Int)))])), (s1, .inl (cI, nl, .inl (fun k => iI (sa k)))), (s2, .inl (cI, nl, .inl (fun k => iI (za k)))), (q3, .inl (cI, N, .inl (fun k => iI (updZ (cpyZ sa nl) (cnt) (x1) k)))), (q4, .inl (cI, N, .inl (upd (fun k => iI (cpyZ za nl k)) (cnt) (iI (x2)))))] H := hP
      have hD : va_D A [(h, .inr (1, [.ref wb, .ref q3, .ref q4, .int (iI ((cnt : Int)))])), (s1, .inl (cI, nl, .inl (fun k => iI (sa k)))), (s2, .inl (cI, nl, .inl (fun k => iI (za k)))), (q3, .inl (cI, N, .inl (fun k => iI (updZ (cpyZ sa nl) (cnt) (x1) k)))), (q4, .inl (cI, N, .inl (upd (fun k => iI (cpyZ za nl k)) (cnt) (iI (x2)))))] := hD
      rw [up_iI] at hP hD
      refine lv_aload_n hx hb dX1_add_92 rfl (lv_at hl 1 rfl) ?_
      refine lv_dup hx hb dX1_add_93 rfl ?_
      refine va_get (D := (dC, dI)) (ci := 1) (v := .int (iI ((cnt : Int)))) (C := "RequestCutter$WordRow") (T := TX1) (N := 4) hx hb hts (fun w h => List.mem_cons_of_mem _ (inX1 w h)) hown hK hP 0 rfl rfl 3 (by decide) (hts _ (List.mem_cons_of_mem _ tw_64)) (fun _ h9 => h9) rfl dX1_add_94 ?_
      refine lv_iconst (v := iI (1)) hx hb dX1_add_97 rfl ?_
      refine lx_iadd (a := (cnt : Int)) (b := 1) hx hb dX1_add_98 ?_
      refine lx_top (x2 := iI ((cnt + 1 : Nat) : Int)) (congrArg iI (by omega)) ?_
      refine va_put (D := (dC, dI)) (ci := 1) (v := .int (iI (((cnt + 1 : Nat) : Int)))) (ty := .int) (C := "RequestCutter$WordRow") (T := TX1) (N := 4) hx hb hts (fun w h => List.mem_cons_of_mem _ (inX1 w h)) tyX1 tyX1_ok nmX1 hown hK hP hD hS 0 rfl rfl 3 (by decide) (hts _ (List.mem_cons_of_mem _ tw_64)) (fun _ h9 => h9) rfl (by decide +kernel) rfl rfl (Nat.le_of_ble_eq_true rfl) dX1_add_99 (fun H locs hP hD hS => ?_)
      have hP : va_P (dC, dI) vwCl [(h, .inr (1, [.ref wb, .ref q3, .ref q4, .int (iI (((cnt + 1 : Nat) : Int)))])), (s1, .inl (cI, nl, .inl (fun k => iI (sa k)))), (s2, .inl (cI, nl, .inl (fun k => iI (za k)))), (q3, .inl (cI, N, .inl (fun k => iI (updZ (cpyZ sa nl) (cnt) (x1) k)))), (q4, .inl (cI, N, .inl (fun k => iI (updZ (cpyZ za nl) (cnt) (x2) k))))] H := hP
      have hD : va_D A [(h, .inr (1, [.ref wb, .ref q3, .ref q4, .int (iI (((cnt + 1 : Nat) : Int)))])), (s1, .inl (cI, nl, .inl (fun k => iI (sa k)))), (s2, .inl (cI, nl, .inl (fun k => iI (za k)))), (q3, .inl (cI, N, .inl (fun k => iI (updZ (cpyZ sa nl) (cnt) (x1) k)))), (q4, .inl (cI, N, .inl (fun k => iI (updZ (cpyZ za nl) (cnt) (x2) k))))] := hD
      exact W.vret hx hb hr (fun t ht hW => ⟨⟨(q3, q4, N, cnt + 1, updZ (cpyZ sa nl) cnt x1, updZ (cpyZ za nl) cnt x2), rfl, ⟨by show 8 ≤ N ∧ N ≤ 1024; omega, by show cnt + 1 ≤ N; omega, Or.inr ⟨by omega, hN⟩, Or.inl ⟨by omega, rfl⟩, fun j hj => ⟨(updZ_n _ _ (by omega)).trans (cpyZ_lt _ (by omega)), (updZ_n _ _ (by omega)).trans (cpyZ_lt _ (by omega))⟩, fun _ => ⟨updZ_s _ _ _, updZ_s _ _ _⟩⟩, by rw [ht]; exact (hP.sub [0, 3, 4] rfl), va_K.moved hW.alike hK, hD.sub [0, 3, 4] (by decide) rfl⟩, hS.F ht⟩) hS.2.2 dX1_add_102
    · refine lv_aload_n hx hb dX1_add_23 rfl (lv_at hl 0 rfl) ?_
      refine va_get (D := (dC, dI)) (ci := 1) (v := .int (iI ((cnt : Int)))) (C := "RequestCutter$WordRow") (T := TX1) (N := 4) hx hb hts (fun w h => List.mem_cons_of_mem _ (inX1 w h)) hown hK hP 0 rfl rfl 3 (by decide) (hts _ (List.mem_cons_of_mem _ tw_64)) (fun _ h9 => h9) rfl dX1_add_24 ?_
      refine lv_aload_n hx hb dX1_add_27 rfl (lv_at hl 0 rfl) ?_
      refine va_get (D := (dC, dI)) (ci := 1) (v := .ref s2) (C := "RequestCutter$WordRow") (T := TX1) (N := 4) hx hb hts (fun w h => List.mem_cons_of_mem _ (inX1 w h)) hown hK hP 0 rfl rfl 2 (by decide) (hts _ (List.mem_cons_of_mem _ tw_63)) (fun _ h9 => h9) rfl dX1_add_28 ?_
      refine va_alen (v := iI ((nl : Nat) : Int)) hx hb hK hP 2 1 rfl rfl (iI_nat _) dX1_add_31 ?_
      refine lx_icmp_lt (a := (cnt : Int)) (b := ((nl : Nat) : Int)) (tgt := 72) hx hb dX1_add_32 (by decide) (by omega) (by omega) (fun cq5 => ?_) (fun cq5 => ?_)
      · refine W.widen (k := mc) (n := ms) (by omega) (by omega) ?_
        refine lv_aload_n hx hb dX1_add_72 rfl (lv_at hl 0 rfl) ?_
        refine va_get (D := (dC, dI)) (ci := 1) (v := .ref s1) (C := "RequestCutter$WordRow") (T := TX1) (N := 4) hx hb hts (fun w h => List.mem_cons_of_mem _ (inX1 w h)) hown hK hP 0 rfl rfl 1 (by decide) (hts _ (List.mem_cons_of_mem _ tw_62)) (fun _ h9 => h9) rfl dX1_add_73 ?_
        refine lv_aload_n hx hb dX1_add_76 rfl (lv_at hl 0 rfl) ?_
        refine va_get (D := (dC, dI)) (ci := 1) (v := .int (iI ((cnt : Int)))) (C := "RequestCutter$WordRow") (T := TX1) (N := 4) hx hb hts (fun w h => List.mem_cons_of_mem _ (inX1 w h)) hown hK hP 0 rfl rfl 3 (by decide) (hts _ (List.mem_cons_of_mem _ tw_64)) (fun _ h9 => h9) rfl dX1_add_77 ?_
        refine lv_iload_n hx hb dX1_add_80 rfl (lv_at hl 1 rfl) ?_
        refine lx_iast (x := iI (x1)) (i := (cnt : Int)) hx hb hK hP hD hS 1 1 rfl rfl (cnt) (by omega) (by omega) dX1_add_81 (fun H locs hP hD hS => ?_)
        have hP : va_P (dC, dI) vwCl [(h, .inr (1, [.ref wb, .ref s1, .ref s2, .int (iI ((cnt : Int)))])), (s1, .inl (cI, nl, .inl (upd (fun k => iI (sa k)) (cnt) (iI (x1))))), (s2, .inl (cI, nl, .inl (fun k => iI (za k))))] H := hP
        have hD : va_D A [(h, .inr (1, [.ref wb, .ref s1, .ref s2, .int (iI ((cnt : Int)))])), (s1, .inl (cI, nl, .inl (upd (fun k => iI (sa k)) (cnt) (iI (x1))))), (s2, .inl (cI, nl, .inl (fun k => iI (za k))))] := hD
        rw [up_iI] at hP hD
        refine lv_aload_n hx hb dX1_add_82 rfl (lv_at hl 0 rfl) ?_
        refine va_get (D := (dC, dI)) (ci := 1) (v := .ref s2) (C := "RequestCutter$WordRow") (T := TX1) (N := 4) hx hb hts (fun w h => List.mem_cons_of_mem _ (inX1 w h)) hown hK hP 0 rfl rfl 2 (by decide) (hts _ (List.mem_cons_of_mem _ tw_63)) (fun _ h9 => h9) rfl dX1_add_83 ?_
        refine lv_aload_n hx hb dX1_add_86 rfl (lv_at hl 0 rfl) ?_
        refine va_get (D := (dC, dI)) (ci := 1) (v := .int (iI ((cnt : Int)))) (C := "RequestCutter$WordRow") (T := TX1) (N := 4) hx hb hts (fun w h => List.mem_cons_of_mem _ (inX1 w h)) hown hK hP 0 rfl rfl 3 (by decide) (hts _ (List.mem_cons_of_mem _ tw_64)) (fun _ h9 => h9) rfl dX1_add_87 ?_
        refine lv_iload_n hx hb dX1_add_90 rfl (lv_at hl 2 rfl) ?_
        refine lx_iast (x := iI (x2)) (i := (cnt : Int)) hx hb hK hP hD hS 2 1 rfl rfl (cnt) (by omega) (by omega) dX1_add_91 (fun H locs hP hD hS => ?_)
        have hP : va_P (dC, dI) vwCl [(h, .inr (1, [.ref wb, .ref s1, .ref s2, .int (iI ((cnt : Int)))])), (s1, .inl (cI, nl, .inl (fun k => iI (updZ (sa) (cnt) (x1) k)))), (s2, .inl (cI, nl, .inl (upd (fun k => iI (za k)) (cnt) (iI (x2)))))] H := hP
        have hD : va_D A [(h, .inr (1, [.ref wb, .ref s1, .ref s2, .int (iI ((cnt : Int)))])), (s1, .inl (cI, nl, .inl (fun k => iI (updZ (sa) (cnt) (x1) k)))), (s2, .inl (cI, nl, .inl (upd (fun k => iI (za k)) (cnt) (iI (x2)))))] := hD
        rw [up_iI] at hP hD
        refine lv_aload_n hx hb dX1_add_92 rfl (lv_at hl 0 rfl) ?_
        refine lv_dup hx hb dX1_add_93 rfl ?_
        refine va_get (D := (dC, dI)) (ci := 1) (v := .int (iI ((cnt : Int)))) (C := "RequestCutter$WordRow") (T := TX1) (N := 4) hx hb hts (fun w h => List.mem_cons_of_mem _ (inX1 w h)) hown hK hP 0 rfl rfl 3 (by decide) (hts _ (List.mem_cons_of_mem _ tw_64)) (fun _ h9 => h9) rfl dX1_add_94 ?_
        refine lv_iconst (v := iI (1)) hx hb dX1_add_97 rfl ?_
        refine lx_iadd (a := (cnt : Int)) (b := 1) hx hb dX1_add_98 ?_
        refine lx_top (x2 := iI ((cnt + 1 : Nat) : Int)) (congrArg iI (by omega)) ?_
        refine va_put (D := (dC, dI)) (ci := 1) (v := .int (iI (((cnt + 1 : Nat) : Int)))) (ty := .int) (C := "RequestCutter$WordRow") (T := TX1) (N := 4) hx hb hts (fun w h => List.mem_cons_of_mem _ (inX1 w h)) tyX1 tyX1_ok nmX1 hown hK hP hD hS 0 rfl rfl 3 (by decide) (hts _ (List.mem_cons_of_mem _ tw_64)) (fun _ h9 => h9) rfl (by decide +kernel) rfl rfl (Nat.le_of_ble_eq_true rfl) dX1_add_99 (fun H locs hP hD hS => ?_)
        have hP : va_P (dC, dI) vwCl [(h, .inr (1, [.ref wb, .ref s1, .ref s2, .int (iI (((cnt + 1 : Nat) : Int)))])), (s1, .inl (cI, nl, .inl (fun k => iI (updZ (sa) (cnt) (x1) k)))), (s2, .inl (cI, nl, .inl (fun k => iI (updZ (za) (cnt) (x2) k))))] H := hP
        have hD : va_D A [(h, .inr (1, [.ref wb, .ref s1, .ref s2, .int (iI (((cnt + 1 : Nat) : Int)))])), (s1, .inl (cI, nl, .inl (fun k => iI (updZ (sa) (cnt) (x1) k)))), (s2, .inl (cI, nl, .inl (fun k => iI (updZ (za) (cnt) (x2) k))))] := hD
        exact W.vret hx hb hr (fun t ht hW => ⟨⟨(s1, s2, nl, cnt + 1, updZ sa cnt x1, updZ za cnt x2), rfl, ⟨hn, by show cnt + 1 ≤ nl; omega, Or.inl ⟨by omega, rfl⟩, Or.inl ⟨by omega, rfl⟩, fun j hj => ⟨updZ_n _ _ (by omega), updZ_n _ _ (by omega)⟩, fun _ => ⟨updZ_s _ _ _, updZ_s _ _ _⟩⟩, by rw [ht]; exact hP, va_K.moved hW.alike hK, hD⟩, hS.F ht⟩) hS.2.2 dX1_add_102
      · exact absurd cq5 (by omega)
  · refine W.widen (k := mc) (n := ms) (Nat.zero_le _) (Nat.zero_le _) ?_
    exact W.vret hx hb hr (fun t ht hW => ⟨⟨(s1, s2, nl, cnt, sa, za), rfl, ⟨hn, hc, Or.inl ⟨by omega, rfl⟩, Or.inr ⟨by omega, rfl⟩, fun _ _ => ⟨rfl, rfl⟩, fun z => by omega⟩, by rw [ht]; exact hP, va_K.moved hW.alike hK, hD⟩, hS.F ht⟩) hS.2.2 dX1_add_10
set_option maxHeartbeats 4000000 in
set_option maxRecDepth 100000 in
/-- WordRow.sizeOf(w) -/
theorem c_X1_sizeOf (l : Launch) (dC : Nat → ClassId) (dI : Nat → Nat → Nat) (cB cI : ClassId) (h wb s1 s2 nl cnt : Nat) (za : Nat → Int) (hc : cnt ≤ nl) (hn : nl ≤ 1024) (i : Int) (hi : -2147483648 ≤ i ∧ i ≤ 2147483647) : Met l yX1_sizeOf wX1_sizeOf ({ frames := 0, cells := 0, slots := 0, locals := 0 }) (va_Pc [.ref h, .int (iI (i))] (vx_R (dC, dI) vwCl [(cB, .byte), (cI, .int)] [(h, .inr (1, [.ref wb, .ref s1, .ref s2, .int (iI ((cnt : Int)))])), (s2, .inl (cI, nl, .inl (fun k => iI (za k))))])) (vp_Si (fun r => r = iI (if 0 ≤ i ∧ i < cnt then za i.toNat else -1))) 0 0 (fun _ => False) := by
  refine Met.ofW (cc := cX1_sizeOf) (maxL := 2) (ret := (some .int)) (by decide) rfl ?_
  intro p e s m args below meth c s₁ B hml hv
  obtain ⟨rfl, hP, hK⟩ := hv
  have hx := B.exec
  have hb := B.bytes
  have hr := B.returns
  have hts := atoms_spec (ws := wX1_sizeOf) B.pre
  have hown : s.vm.findClass "RequestCutter$WordRow" = some m.cls := findClass_of_methodNamed B.named
  have hlocks := B.notSynchronized
  have hP : va_P (dC, dI) vwCl [(h, .inr (1, [.ref wb, .ref s1, .ref s2, .int (iI ((cnt : Int)))])), (s2, .inl (cI, nl, .inl (fun k => iI (za k))))] s.heap := hP
  have hl := lv_entry ([.ref h, .int (iI (i))]) (n := 2) (Nat.le_of_ble_eq_true rfl)
  rw [lg_entry_eq]
  generalize (lg_sl ([.ref h, .int (iI (i))]) ++ List.replicate (2 - (lg_sl ([.ref h, .int (iI (i))])).length) Slot.unset).toArray = ls at hl ⊢
  have hl : lv_has ls 2 [(0, .ref h), (1, .int (iI (i)))] := hl
  refine lv_iload_n hx hb dX1_sizeOf_0 rfl (lv_at hl 1 rfl) ?_
  refine lx_if_lt (a := i) (tgt := 21) hx hb dX1_sizeOf_1 (by decide) (by omega) (fun cq1 => ?_) (fun cq1 => ?_)
  · refine lv_iconst (v := iI (-1)) hx hb dX1_sizeOf_21 rfl ?_
    exact W.iret (v := iI (-1)) hx hb hr (fun t ht hW => ⟨iI (-1), rfl, by rw [if_neg (by omega)], ht⟩) (fun _ h => by cases h) dX1_sizeOf_22
  · refine lv_iload_n hx hb dX1_sizeOf_4 rfl (lv_at hl 1 rfl) ?_
    refine lv_aload_n hx hb dX1_sizeOf_5 rfl (lv_at hl 0 rfl) ?_
    refine va_get (D := (dC, dI)) (ci := 1) (v := .int (iI ((cnt : Int)))) (C := "RequestCutter$WordRow") (T := TX1) (N := 4) hx hb hts (fun w h => List.mem_cons_of_mem _ (inX1 w h)) hown hK hP 0 rfl rfl 3 (by decide) (hts _ (List.mem_cons_of_mem _ tw_64)) (fun _ h9 => h9) rfl dX1_sizeOf_6 ?_
    refine lx_icmp_ge (a := i) (b := (cnt : Int)) (tgt := 21) hx hb dX1_sizeOf_9 (by decide) (by omega) (by omega) (fun cq2 => ?_) (fun cq2 => ?_)
    · refine lv_iconst (v := iI (-1)) hx hb dX1_sizeOf_21 rfl ?_
      exact W.iret (v := iI (-1)) hx hb hr (fun t ht hW => ⟨iI (-1), rfl, by rw [if_neg (by omega)], ht⟩) (fun _ h => by cases h) dX1_sizeOf_22
    · refine lv_aload_n hx hb dX1_sizeOf_12 rfl (lv_at hl 0 rfl) ?_
      refine va_get (D := (dC, dI)) (ci := 1) (v := .ref s2) (C := "RequestCutter$WordRow") (T := TX1) (N := 4) hx hb hts (fun w h => List.mem_cons_of_mem _ (inX1 w h)) hown hK hP 0 rfl rfl 2 (by decide) (hts _ (List.mem_cons_of_mem _ tw_63)) (fun _ h9 => h9) rfl dX1_sizeOf_13 ?_
      refine lv_iload_n hx hb dX1_sizeOf_16 rfl (lv_at hl 1 rfl) ?_
      refine va_iald hx hb hK hP 1 1 rfl rfl (iI_in (by omega)) dX1_sizeOf_17 ?_
      refine lx_top (x2 := iI (za ((i).toNat))) (congrArg (fun k => iI (za k)) (iI_cl (a := i) (by omega))) ?_
      refine lv_goto (tgt := 22) hx hb dX1_sizeOf_18 (by decide) ?_
      exact W.iret (v := iI (za ((i).toNat))) hx hb hr (fun t ht hW => ⟨iI (za ((i).toNat)), rfl, by rw [if_pos (by omega)], ht⟩) (fun _ h => by cases h) dX1_sizeOf_22
set_option maxHeartbeats 4000000 in
set_option maxRecDepth 100000 in
/-- WordRow.byteAt(w, i) -/
theorem c_X1_byteAt (l : Launch) (dC : Nat → ClassId) (dI : Nat → Nat → Nat) (cB cI : ClassId) (h wb s1 s2 nl cnt : Nat) (sa za : Nat → Int) (hc : cnt ≤ nl) (hn : nl ≤ 1024) (hz : ∀ j, j < cnt → (0 ≤ sa j ∧ sa j ≤ 65536) ∧ 0 ≤ za j ∧ za j ≤ 65536) (wq wlim wl wc : Nat) (wf : Nat → Int32) (hwc : wc ≤ wl) (hwl : wl ≤ 65536) (i k : Int) (hi : -2147483648 ≤ i ∧ i ≤ 2147483647) (hk : -2147483648 ≤ k ∧ k ≤ 2147483647) : Met l yX1_byteAt wX1_byteAt ({ frames := 1, cells := 0, slots := 0, locals := 21 }) (va_Pc [.ref h, .int (iI (i)), .int (iI (k))] (vx_R (dC, dI) vwCl [(cB, .byte), (cI, .int)] [(h, .inr (1, [.ref wb, .ref s1, .ref s2, .int (iI ((cnt : Int)))])), (s1, .inl (cI, nl, .inl (fun k => iI (sa k)))), (s2, .inl (cI, nl, .inl (fun k => iI (za k)))), (wb, .inr (0, [.int (iI ((wlim : Int))), .ref wq, .int (iI ((wc : Int)))])), (wq, .inl (cB, wl, .inl (wf)))])) (vp_Si (fun r => r = iI (if (0 ≤ i ∧ i < cnt) ∧ 0 ≤ k ∧ k < za i.toNat then bA wf wc (sa i.toNat + k) else -1))) 0 0 (fun _ => False) := by
  refine Met.ofW (cc := cX1_byteAt) (maxL := 3) (ret := (some .int)) (by decide) rfl ?_
  intro p e s m args below meth c s₁ B hml hv
  obtain ⟨rfl, hP, hK⟩ := hv
  have hx := B.exec
  have hb := B.bytes
  have hr := B.returns
  have hts := atoms_spec (ws := wX1_byteAt) B.pre
  have hown : s.vm.findClass "RequestCutter$WordRow" = some m.cls := findClass_of_methodNamed B.named
  have hlocks := B.notSynchronized
  have hP : va_P (dC, dI) vwCl [(h, .inr (1, [.ref wb, .ref s1, .ref s2, .int (iI ((cnt : Int)))])), (s1, .inl (cI, nl, .inl (fun k => iI (sa k)))), (s2, .inl (cI, nl, .inl (fun k => iI (za k)))), (wb, .inr (0, [.int (iI ((wlim : Int))), .ref wq, .int (iI ((wc : Int)))])), (wq, .inl (cB, wl, .inl (wf)))] s.heap := hP
  have hl := lv_entry ([.ref h, .int (iI (i)), .int (iI (k))]) (n := 3) (Nat.le_of_ble_eq_true rfl)
  rw [lg_entry_eq]
  generalize (lg_sl ([.ref h, .int (iI (i)), .int (iI (k))]) ++ List.replicate (3 - (lg_sl ([.ref h, .int (iI (i)), .int (iI (k))])).length) Slot.unset).toArray = ls at hl ⊢
  have hl : lv_has ls 3 [(0, .ref h), (1, .int (iI (i))), (2, .int (iI (k)))] := hl
  refine lv_iload_n hx hb dX1_byteAt_0 rfl (lv_at hl 1 rfl) ?_
  refine lx_if_lt (a := i) (tgt := 26) hx hb dX1_byteAt_1 (by decide) (by omega) (fun cq1 => ?_) (fun cq1 => ?_)
  · refine lv_iconst (v := iI (-1)) hx hb dX1_byteAt_26 rfl ?_
    exact W.iret (v := iI (-1)) hx hb hr (fun t ht hW => ⟨iI (-1), rfl, by rw [if_neg (by omega)], ht⟩) (fun _ h => by cases h) dX1_byteAt_27
  · refine lv_iload_n hx hb dX1_byteAt_4 rfl (lv_at hl 1 rfl) ?_
    refine lv_aload_n hx hb dX1_byteAt_5 rfl (lv_at hl 0 rfl) ?_
    refine va_get (D := (dC, dI)) (ci := 1) (v := .int (iI ((cnt : Int)))) (C := "RequestCutter$WordRow") (T := TX1) (N := 4) hx hb hts (fun w h => List.mem_cons_of_mem _ (inX1 w h)) hown hK hP 0 rfl rfl 3 (by decide) (hts _ (List.mem_cons_of_mem _ tw_64)) (fun _ h9 => h9) rfl dX1_byteAt_6 ?_
    refine lx_icmp_ge (a := i) (b := (cnt : Int)) (tgt := 26) hx hb dX1_byteAt_9 (by decide) (by omega) (by omega) (fun cq2 => ?_) (fun cq2 => ?_)
    · refine lv_iconst (v := iI (-1)) hx hb dX1_byteAt_26 rfl ?_
      exact W.iret (v := iI (-1)) hx hb hr (fun t ht hW => ⟨iI (-1), rfl, by rw [if_neg (by omega)], ht⟩) (fun _ h => by cases h) dX1_byteAt_27
    · refine lv_iload_n hx hb dX1_byteAt_12 rfl (lv_at hl 2 rfl) ?_
      refine lx_if_lt (a := k) (tgt := 26) hx hb dX1_byteAt_13 (by decide) (by omega) (fun cq3 => ?_) (fun cq3 => ?_)
      · refine lv_iconst (v := iI (-1)) hx hb dX1_byteAt_26 rfl ?_
        exact W.iret (v := iI (-1)) hx hb hr (fun t ht hW => ⟨iI (-1), rfl, by rw [if_neg (by omega)], ht⟩) (fun _ h => by cases h) dX1_byteAt_27
      · refine lv_iload_n hx hb dX1_byteAt_16 rfl (lv_at hl 2 rfl) ?_
        refine lv_aload_n hx hb dX1_byteAt_17 rfl (lv_at hl 0 rfl) ?_
        refine va_get (D := (dC, dI)) (ci := 1) (v := .ref s2) (C := "RequestCutter$WordRow") (T := TX1) (N := 4) hx hb hts (fun w h => List.mem_cons_of_mem _ (inX1 w h)) hown hK hP 0 rfl rfl 2 (by decide) (hts _ (List.mem_cons_of_mem _ tw_63)) (fun _ h9 => h9) rfl dX1_byteAt_18 ?_
        refine lv_iload_n hx hb dX1_byteAt_21 rfl (lv_at hl 1 rfl) ?_
        refine va_iald hx hb hK hP 2 1 rfl rfl (iI_in (by omega)) dX1_byteAt_22 ?_
        refine lx_top (x2 := iI (za ((i).toNat))) (congrArg (fun k => iI (za k)) (iI_cl (a := i) (by omega))) ?_
        have hz1 := hz i.toNat (by omega)
        refine lx_icmp_lt (a := k) (b := za ((i).toNat)) (tgt := 28) hx hb dX1_byteAt_23 (by decide) (by omega) (by omega) (fun cq4 => ?_) (fun cq4 => ?_)
        · refine lv_aload_n hx hb dX1_byteAt_28 rfl (lv_at hl 0 rfl) ?_
          refine va_get (D := (dC, dI)) (ci := 1) (v := .ref wb) (C := "RequestCutter$WordRow") (T := TX1) (N := 4) hx hb hts (fun w h => List.mem_cons_of_mem _ (inX1 w h)) hown hK hP 0 rfl rfl 0 (by decide) (hts _ (List.mem_cons_of_mem _ tw_61)) (fun _ h9 => h9) rfl dX1_byteAt_29 ?_
          refine lv_aload_n hx hb dX1_byteAt_32 rfl (lv_at hl 0 rfl) ?_
          refine va_get (D := (dC, dI)) (ci := 1) (v := .ref s1) (C := "RequestCutter$WordRow") (T := TX1) (N := 4) hx hb hts (fun w h => List.mem_cons_of_mem _ (inX1 w h)) hown hK hP 0 rfl rfl 1 (by decide) (hts _ (List.mem_cons_of_mem _ tw_62)) (fun _ h9 => h9) rfl dX1_byteAt_33 ?_
          refine lv_iload_n hx hb dX1_byteAt_36 rfl (lv_at hl 1 rfl) ?_
          refine va_iald hx hb hK hP 1 1 rfl rfl (iI_in (by omega)) dX1_byteAt_37 ?_
          refine lx_top (x2 := iI (sa ((i).toNat))) (congrArg (fun k => iI (sa k)) (iI_cl (a := i) (by omega))) ?_
          refine lv_iload_n hx hb dX1_byteAt_38 rfl (lv_at hl 2 rfl) ?_
          refine lx_iadd (a := sa ((i).toNat)) (b := k) hx hb dX1_byteAt_39 ?_
          refine vx_Vs (As := [.int (iI ((sa ((i).toNat)) + k))]) (rest := []) (ci := 0) (q0 := 0) [3, 4] ⟨hx, hb, hml, hown, hts⟩ (c_X0_at l dC dI cB cI wb wq wlim wl wc wf hwc hwl ((sa ((i).toNat)) + k) (by omega)) (cwV 1 hts (gd_V tw_250 tw_159 tw_160 tw_20 tw_161) rfl rfl rfl (by decide +kernel) ⟨Nat.le_of_ble_eq_true rfl, Nat.le_of_ble_eq_true rfl⟩) hK hP rfl rfl rfl rfl rfl hl.1 rfl (Nat.le_of_ble_eq_true rfl) dX1_byteAt_40 ⟨Nat.zero_le _, Nat.zero_le _⟩ (fun r hr => ?_)
          obtain rfl : r = iI (bA wf wc ((sa ((i).toNat)) + k)) := hr
          exact W.iret (v := iI (bA wf wc ((sa ((i).toNat)) + k))) hx hb hr (fun t ht hW => ⟨iI (bA wf wc ((sa ((i).toNat)) + k)), rfl, by rw [if_pos (by omega)], ht⟩) (fun _ h => by cases h) dX1_byteAt_43
        · refine lv_iconst (v := iI (-1)) hx hb dX1_byteAt_26 rfl ?_
          exact W.iret (v := iI (-1)) hx hb hr (fun t ht hW => ⟨iI (-1), rfl, by rw [if_neg (by omega)], ht⟩) (fun _ h => by cases h) dX1_byteAt_27
set_option maxHeartbeats 4000000 in
set_option maxRecDepth 100000 in
/-- WordRow.keepBytes(input, used) -/
theorem c_X1_keepBytes (l : Launch) (dC : Nat → ClassId) (dI : Nat → Nat → Nat) (cB cI : ClassId) (sz : Nat) (h wb s1 s2 cnt : Nat) (wq wlim wl wc : Nat) (wf : Nat → Int32) (hc : wc ≤ wl) (hn : wl ≤ 65536) (hm : wlim ≤ 65536) (hll : wl ≤ wlim) (hfit : sb_Fit wf) (h2 q2 lim2 len2 cnt2 : Nat) (g : Nat → Int32) (hc2 : cnt2 ≤ len2) (hn2 : len2 ≤ 65536) (hm2 : lim2 ≤ 65536) (hfit2 : sb_Fit g) (i : Nat) (hi : i ≤ cnt2) (hiw : wc + i ≤ wlim) (mc ms : Nat) (hroom : wl < wc + i → 1 ≤ mc ∧ gL wlim wl (wc + i) ≤ ms) : Met l yX1_keepBytes wX1_keepBytes ({ frames := 4, cells := mc, slots := ms, locals := 115 }) (va_Pc [.ref h, .ref h2, .int (iI ((i : Int)))] (vx_B (dC, dI) vwCl [(cB, .byte), (cI, .int)] [(h, .inr (1, [.ref wb, .ref s1, .ref s2, .int (iI ((cnt : Int)))])), (wb, .inr (0, [.int (iI ((wlim : Int))), .ref wq, .int (iI ((wc : Int)))])), (wq, .inl (cB, wl, .inl (wf))), (h2, .inr (0, [.int (iI ((lim2 : Int))), .ref q2, .int (iI ((cnt2 : Int)))])), (q2, .inl (cB, len2, .inl (g)))] sz)) (va_Qv (fun (u : Nat × Nat × Nat × (Nat → Int32)) => sb_Fit u.2.2.2 ∧ u.2.1 = (if wl < wc + i then gL wlim wl (wc + i) else wl) ∧ u.2.1 ≤ wlim ∧ u.2.2.1 = wc + i ∧ wc + i ≤ u.2.1 ∧ (∀ j, j < wc → u.2.2.2 j = wf j) ∧ ∀ j, j < i → u.2.2.2 (wc + j) = g j) (fun (u : Nat × Nat × Nat × (Nat → Int32)) => vx_E (dC, dI) vwCl [(cB, .byte), (cI, .int)] (va_A [(h, .inr (1, [.ref wb, .ref s1, .ref s2, .int (iI ((cnt : Int)))])), (wb, .inr (0, [.int (iI ((wlim : Int))), .ref wq, .int (iI ((wc : Int)))])), (wq, .inl (cB, wl, .inl (wf))), (h2, .inr (0, [.int (iI ((lim2 : Int))), .ref q2, .int (iI ((cnt2 : Int)))])), (q2, .inl (cB, len2, .inl (g)))] sz) [(h, .inr (1, [.ref wb, .ref s1, .ref s2, .int (iI ((cnt : Int)))])), (wb, .inr (0, [.int (iI ((wlim : Int))), .ref u.1, .int (iI ((u.2.2.1 : Int)))])), (u.1, .inl (cB, u.2.1, .inl (u.2.2.2))), (h2, .inr (0, [.int (iI ((lim2 : Int))), .ref q2, .int (iI ((cnt2 : Int)))])), (q2, .inl (cB, len2, .inl (g)))]) (va_A [(h, .inr (1, [.ref wb, .ref s1, .ref s2, .int (iI ((cnt : Int)))])), (wb, .inr (0, [.int (iI ((wlim : Int))), .ref wq, .int (iI ((wc : Int)))])), (wq, .inl (cB, wl, .inl (wf))), (h2, .inr (0, [.int (iI ((lim2 : Int))), .ref q2, .int (iI ((cnt2 : Int)))])), (q2, .inl (cB, len2, .inl (g)))] sz)) (mc) (ms) (va_A [(h, .inr (1, [.ref wb, .ref s1, .ref s2, .int (iI ((cnt : Int)))])), (wb, .inr (0, [.int (iI ((wlim : Int))), .ref wq, .int (iI ((wc : Int)))])), (wq, .inl (cB, wl, .inl (wf))), (h2, .inr (0, [.int (iI ((lim2 : Int))), .ref q2, .int (iI ((cnt2 : Int)))])), (q2, .inl (cB, len2, .inl (g)))] sz) := by
  refine Met.ofW (cc := cX1_keepBytes) (maxL := 3) (ret := none) (by decide) rfl ?_
  intro p e s m args below meth c s₁ B hml hv
  obtain ⟨rfl, hsz, hP, hK, hD0⟩ := hv
  have hx := B.exec
  have hb := B.bytes
  have hr := B.returns
  have hts := atoms_spec (ws := wX1_keepBytes) B.pre
  have hown : s.vm.findClass "RequestCutter$WordRow" = some m.cls := findClass_of_methodNamed B.named
  have hlocks := B.notSynchronized
  subst hsz
  have hD := hD0.self (sz := s.heap.size)
  generalize hAe : va_A [(h, .inr (1, [.ref wb, .ref s1, .ref s2, .int (iI ((cnt : Int)))])), (wb, .inr (0, [.int (iI ((wlim : Int))), .ref wq, .int (iI ((wc : Int)))])), (wq, .inl (cB, wl, .inl (wf))), (h2, .inr (0, [.int (iI ((lim2 : Int))), .ref q2, .int (iI ((cnt2 : Int)))])), (q2, .inl (cB, len2, .inl (g)))] s.heap.size = A at hD ⊢
  have hA : ∀ q : Nat, s.heap.size ≤ q → A q := fun q h => by rw [← hAe]; exact Or.inr h
  have hS : va_S A s.heap s.heap [] := va_S.rf
  have hP : va_P (dC, dI) vwCl [(h, .inr (1, [.ref wb, .ref s1, .ref s2, .int (iI ((cnt : Int)))])), (wb, .inr (0, [.int (iI ((wlim : Int))), .ref wq, .int (iI ((wc : Int)))])), (wq, .inl (cB, wl, .inl (wf))), (h2, .inr (0, [.int (iI ((lim2 : Int))), .ref q2, .int (iI ((cnt2 : Int)))])), (q2, .inl (cB, len2, .inl (g)))] s.heap := hP
  have hl := lv_entry ([.ref h, .ref h2, .int (iI ((i : Int)))]) (n := 3) (Nat.le_of_ble_eq_true rfl)
  rw [lg_entry_eq]
  generalize (lg_sl ([.ref h, .ref h2, .int (iI ((i : Int)))]) ++ List.replicate (3 - (lg_sl ([.ref h, .ref h2, .int (iI ((i : Int)))])).length) Slot.unset).toArray = ls at hl ⊢
  have hl : lv_has ls 3 [(0, .ref h), (1, .ref h2), (2, .int (iI ((i : Int))))] := hl
  refine lv_aload_n hx hb dX1_keepBytes_0 rfl (lv_at hl 0 rfl) ?_
  refine va_get (D := (dC, dI)) (ci := 1) (v := .ref wb) (C := "RequestCutter$WordRow") (T := TX1) (N := 4) hx hb hts (fun w h => List.mem_cons_of_mem _ (inX1 w h)) hown hK hP 0 rfl rfl 0 (by decide) (hts _ (List.mem_cons_of_mem _ tw_61)) (fun _ h9 => h9) rfl dX1_keepBytes_1 ?_
  refine lv_aload_n hx hb dX1_keepBytes_4 rfl (lv_at hl 1 rfl) ?_
  refine lv_iload_n hx hb dX1_keepBytes_5 rfl (lv_at hl 2 rfl) ?_
  have hit : (i : Int).toNat = i := by omega
  refine vx_Vi (As := [.ref h2, .int (iI ((i : Int)))]) (rest := []) (wr := [(h, .inr (1, [.ref wb, .ref s1, .ref s2, .int (iI ((cnt : Int)))]))]) (ci := 0) (q0 := 0) [1, 2, 3, 4] [0] ⟨hx, hb, hml, hown, hts⟩ (c_X0_addFirstOf l dC dI cB cI _ wb wq wlim wl wc wf hc hn hm hll hfit h2 q2 lim2 len2 cnt2 g hc2 hn2 hm2 hfit2 (i : Int) (by omega) mc ms (fun z => by rw [hit]; exact hroom (by omega))) (cwV 2 hts (gd_V tw_221 tw_140 tw_141 tw_20 tw_142) rfl rfl rfl (by decide +kernel) ⟨Nat.le_of_ble_eq_true rfl, Nat.le_of_ble_eq_true rfl⟩) hK hP hD hS hA rfl rfl rfl rfl (by decide) rfl rfl rfl rfl hl.1 rfl (Nat.le_of_ble_eq_true rfl) dX1_keepBytes_6 ⟨by show 0 + mc ≤ mc; omega, by show 0 + ms ≤ ms; omega⟩ (fun r u H locs hw hP hD hS => ?_)
  obtain ⟨q1, len1, c1, f1⟩ := u
  try dsimp only at hw hP hD
  obtain ⟨hr1, hfit1, hl1, hlim1, hok1, -⟩ := hw
  have hP : va_P (dC, dI) vwCl [(h, .inr (1, [.ref wb, .ref s1, .ref s2, .int (iI ((cnt : Int)))])), (wb, .inr (0, [.int (iI ((wlim : Int))), .ref q1, .int (iI ((c1 : Int)))])), (q1, .inl (cB, len1, .inl (f1))), (h2, .inr (0, [.int (iI ((lim2 : Int))), .ref q2, .int (iI ((cnt2 : Int)))])), (q2, .inl (cB, len2, .inl (g)))] H := hP.sub [0, 1, 2, 3, 4] rfl
  have hD : va_D A [(h, .inr (1, [.ref wb, .ref s1, .ref s2, .int (iI ((cnt : Int)))])), (wb, .inr (0, [.int (iI ((wlim : Int))), .ref q1, .int (iI ((c1 : Int)))])), (q1, .inl (cB, len1, .inl (f1))), (h2, .inr (0, [.int (iI ((lim2 : Int))), .ref q2, .int (iI ((cnt2 : Int)))])), (q2, .inl (cB, len2, .inl (g)))] := hD.sub [0, 1, 2, 3, 4] (by decide) rfl
  obtain ⟨b1, hb1, rfl⟩ := bo_of hr1
  have hk1 := hok1 (by omega)
  rw [hit] at hk1 hl1
  refine W.widen (k := mc) (n := ms) (by omega) (by omega) ?_
  refine lv_pop hx hb dX1_keepBytes_9 rfl ?_
  exact W.vret hx hb hr (fun t ht hW => ⟨⟨(q1, len1, c1, f1), rfl, ⟨hfit1, by show len1 = _; rw [hl1]; by_cases z : wl < wc + i; rw [if_pos (by omega), if_pos z]; rw [if_neg (by omega), if_neg z], hlim1, hk1.1, hk1.2.1, hk1.2.2.1, hk1.2.2.2⟩, by rw [ht]; exact hP, va_K.moved hW.alike hK, hD⟩, hS.F ht⟩) hS.2.2 dX1_keepBytes_10
set_option maxHeartbeats 4000000 in
set_option maxRecDepth 100000 in
/-- WordRow() -/
theorem c_X1_init (l : Launch) (dC : Nat → ClassId) (dI : Nat → Nat → Nat) (cB cI : ClassId) (sz : Nat) (h : Nat) : Met l yX1_init wX1_init ({ frames := 2, cells := 4, slots := 83, locals := 42 }) (va_Pc [.ref h] (vx_B (dC, dI) vwCl [(cB, .byte), (cI, .int)] [(h, .inr (1, [.null, .null, .null, .int (iI (0))]))] sz)) (va_Qv (fun (u : Nat × Nat × Nat × Nat) => True) (fun (u : Nat × Nat × Nat × Nat) => vx_E (dC, dI) vwCl [(cB, .byte), (cI, .int)] (va_A [(h, .inr (1, [.null, .null, .null, .int (iI (0))]))] sz) [(h, .inr (1, [.ref u.1, .ref u.2.2.1, .ref u.2.2.2, .int (iI (0))])), (u.1, .inr (0, [.int (iI (((65536 : Nat) : Int))), .ref u.2.1, .int (iI (0))])), (u.2.1, .inl (cB, 64, .inl (fun _ => 0))), (u.2.2.1, .inl (cI, 8, .inl (fun _ => 0))), (u.2.2.2, .inl (cI, 8, .inl (fun _ => 0)))]) (va_A [(h, .inr (1, [.null, .null, .null, .int (iI (0))]))] sz)) (4) (83) (va_A [(h, .inr (1, [.null, .null, .null, .int (iI (0))]))] sz) := by
  refine Met.ofW (cc := cX1_init) (maxL := 1) (ret := none) (by decide) rfl ?_
  intro p e s m args below meth c s₁ B hml hv
  obtain ⟨rfl, hsz, hP, hK, hD0⟩ := hv
  have hx := B.exec
  have hb := B.bytes
  have hr := B.returns
  have hts := atoms_spec (ws := wX1_init) B.pre
  have hown : s.vm.findClass "RequestCutter$WordRow" = some m.cls := findClass_of_methodNamed B.named
  have hlocks := B.notSynchronized
  have hin : meth.name = "<init>" := (name_of_methodNamed B.named B.method).1
  subst hsz
  have hD := hD0.self (sz := s.heap.size)
  generalize hAe : va_A [(h, .inr (1, [.null, .null, .null, .int (iI (0))]))] s.heap.size = A at hD ⊢
  have hA : ∀ q : Nat, s.heap.size ≤ q → A q := fun q h => by rw [← hAe]; exact Or.inr h
  have hS : va_S A s.heap s.heap [] := va_S.rf
  have hP : va_P (dC, dI) vwCl [(h, .inr (1, [.null, .null, .null, .int (iI (0))]))] s.heap := hP
  have hl := lv_entry ([.ref h]) (n := 1) (Nat.le_of_ble_eq_true rfl)
  rw [lg_entry_eq]
  generalize (lg_sl ([.ref h]) ++ List.replicate (1 - (lg_sl ([.ref h])).length) Slot.unset).toArray = ls at hl ⊢
  have hl : lv_has ls 1 [(0, .ref h)] := hl
  refine lv_aload_n hx hb dX1_init_0 rfl (lv_at hl 0 rfl) ?_
  refine W.objInit hx hb hown (hts _ (List.mem_cons_of_mem _ tw_57)) (hts _ (List.mem_cons_of_mem _ tw_32)) (hts _ (List.mem_cons_of_mem _ tw_33)) rfl (by rw [hml]; exact hl.1) rfl dX1_init_1 (Nat.le_of_ble_eq_true rfl) (Nat.le_of_ble_eq_true rfl) ?_
  refine W.eq (g2 := F0 m 4 ls []) rfl ?_
  refine lv_aload_n hx hb dX1_init_4 rfl (lv_at hl 0 rfl) ?_
  refine va_new (ci := 0) (fs := [.int (iI (0)), .null, .int (iI (0))]) (C := "RequestCutter$ByteRow") (T := TX0) (N := 3) hx hb hts (fun w h => List.mem_cons_of_mem _ (inX0 w h)) tyX0 tyX0_ok hown (hts _ (List.mem_cons_of_mem _ tw_58)) (hts _ (List.mem_cons_of_mem _ tw_35)) (hts _ (List.mem_cons_of_mem _ tw_20)) hK hP hD hS hA rfl (fun j hj => by rcases (show j = 0 ∨ j = 1 ∨ j = 2 by omega) with rfl | rfl | rfl <;> rfl) (by show 0 + 1 ≤ 4; omega) (by show 0 + 3 ≤ 83; omega) dX1_init_5 (fun q1 H hP hD hS => ?_)
  have hP : va_P (dC, dI) vwCl [(h, .inr (1, [.null, .null, .null, .int (iI (0))])), (q1, .inr (0, [.int (iI (0)), .null, .int (iI (0))]))] H := hP
  have hD : va_D A [(h, .inr (1, [.null, .null, .null, .int (iI (0))])), (q1, .inr (0, [.int (iI (0)), .null, .int (iI (0))]))] := hD
  refine lv_dup hx hb dX1_init_8 rfl ?_
  refine lx_ldc (z := 65536) (v := 65536) hx hb hown (hts _ (List.mem_cons_of_mem _ tw_59)) (by decide) dX1_init_9 ?_
  refine vx_Iv (As := [.int (iI (((65536 : Nat) : Int)))]) (rest := [.ref q1, .ref h]) (wr := [(h, .inr (1, [.null, .null, .null, .int (iI (0))]))]) [1] [0] ⟨hx, hb, hml, hown, hts⟩ (c_X0_init l dC dI cB cI _ q1 65536 (by omega)) (cwI 1 hts (gd_I tw_38) rfl rfl rfl (hts _ (List.mem_cons_of_mem _ tw_20)) (hts _ (List.mem_cons_of_mem _ tw_60)) (hts _ (List.mem_cons_of_mem _ tw_37)) rfl (by decide +kernel) ⟨Nat.le_of_ble_eq_true rfl, Nat.le_of_ble_eq_true rfl⟩) hK hP hD hS hA rfl rfl rfl rfl (by decide) rfl hl.1 rfl (Nat.le_of_ble_eq_true rfl) dX1_init_11 ⟨by show 0 + 1 + 1 ≤ 4; omega, by show 0 + 3 + 64 ≤ 83; omega⟩ (fun u H locs hw hP hD hS => ?_)
  obtain ⟨q2, rfl⟩ : ∃ z, z = u := ⟨_, rfl⟩
  try dsimp only at hw hP hD
  obtain - := hw
  have hP : va_P (dC, dI) vwCl [(h, .inr (1, [.null, .null, .null, .int (iI (0))])), (q1, .inr (0, [.int (iI (((65536 : Nat) : Int))), .ref q2, .int (iI (0))])), (q2, .inl (cB, 64, .inl (fun _ => 0)))] H := hP.sub [0, 1, 2] rfl
  have hD : va_D A [(h, .inr (1, [.null, .null, .null, .int (iI (0))])), (q1, .inr (0, [.int (iI (((65536 : Nat) : Int))), .ref q2, .int (iI (0))])), (q2, .inl (cB, 64, .inl (fun _ => 0)))] := hD.sub [0, 1, 2] (by decide) rfl
  refine va_putF (D := (dC, dI)) (ci := 1) (v := .ref q1) (ty := .object "RequestCutter$ByteRow") (C := "RequestCutter$WordRow") (T := TX1) (N := 4) hx hb hts (fun w h => List.mem_cons_of_mem _ (inX1 w h)) tyX1 tyX1_ok nmX1 hown hK hP hD hS 0 rfl rfl 0 (by decide) (hts _ (List.mem_cons_of_mem _ tw_61)) (fun _ h9 => h9) rfl hin rfl (by decide +kernel) rfl rfl (Nat.le_of_ble_eq_true rfl) dX1_init_14 (fun H locs hP hD hS => ?_)
  have hP : va_P (dC, dI) vwCl [(h, .inr (1, [.ref q1, .null, .null, .int (iI (0))])), (q1, .inr (0, [.int (iI (((65536 : Nat) : Int))), .ref q2, .int (iI (0))])), (q2, .inl (cB, 64, .inl (fun _ => 0)))] H := hP
  have hD : va_D A [(h, .inr (1, [.ref q1, .null, .null, .int (iI (0))])), (q1, .inr (0, [.int (iI (((65536 : Nat) : Int))), .ref q2, .int (iI (0))])), (q2, .inl (cB, 64, .inl (fun _ => 0)))] := hD
  refine lv_aload_n hx hb dX1_init_17 rfl (lv_at hl 0 rfl) ?_
  refine lv_bipush (v := iI (8)) hx hb dX1_init_18 (by decide) ?_
  refine va_newa (atype := .int) (a0 := (8, .inl (fun _ => 0))) (ty := .int) hx hb (hts _ (List.mem_cons_of_mem _ tw_74)) rfl hK hP hD hS hA (fun _ => rfl) (iI_nn (by omega)) (by rw [iI_cl (by omega)]; omega) (by show 8 * 4 ≤ 536870912; omega) (by show 0 + 1 + 1 + 1 ≤ 4; omega) (by show 0 + 3 + 64 + 8 ≤ 83; omega) dX1_init_20 (fun q3 cA H hK1 hP hD hS => ?_)
  obtain rfl : cI = cA := vx_nmI hK1 1 2 rfl rfl
  have hP : va_P (dC, dI) vwCl [(h, .inr (1, [.ref q1, .null, .null, .int (iI (0))])), (q1, .inr (0, [.int (iI (((65536 : Nat) : Int))), .ref q2, .int (iI (0))])), (q2, .inl (cB, 64, .inl (fun _ => 0))), (q3, .inl (cI, 8, .inl (fun _ => 0)))] H := hP
  have hD : va_D A [(h, .inr (1, [.ref q1, .null, .null, .int (iI (0))])), (q1, .inr (0, [.int (iI (((65536 : Nat) : Int))), .ref q2, .int (iI (0))])), (q2, .inl (cB, 64, .inl (fun _ => 0))), (q3, .inl (cI, 8, .inl (fun _ => 0)))] := hD
  refine va_put (D := (dC, dI)) (ci := 1) (v := .ref q3) (ty := .array .int) (C := "RequestCutter$WordRow") (T := TX1) (N := 4) hx hb hts (fun w h => List.mem_cons_of_mem _ (inX1 w h)) tyX1 tyX1_ok nmX1 hown hK hP hD hS 0 rfl rfl 1 (by decide) (hts _ (List.mem_cons_of_mem _ tw_62)) (fun _ h9 => h9) rfl (by decide +kernel) rfl rfl (Nat.le_of_ble_eq_true rfl) dX1_init_22 (fun H locs hP hD hS => ?_)
  have hP : va_P (dC, dI) vwCl [(h, .inr (1, [.ref q1, .ref q3, .null, .int (iI (0))])), (q1, .inr (0, [.int (iI (((65536 : Nat) : Int))), .ref q2, .int (iI (0))])), (q2, .inl (cB, 64, .inl (fun _ => 0))), (q3, .inl (cI, 8, .inl (fun _ => 0)))] H := hP
  have hD : va_D A [(h, .inr (1, [.ref q1, .ref q3, .null, .int (iI (0))])), (q1, .inr (0, [.int (iI (((65536 : Nat) : Int))), .ref q2, .int (iI (0))])), (q2, .inl (cB, 64, .inl (fun _ => 0))), (q3, .inl (cI, 8, .inl (fun _ => 0)))] := hD
  refine lv_aload_n hx hb dX1_init_25 rfl (lv_at hl 0 rfl) ?_
  refine lv_bipush (v := iI (8)) hx hb dX1_init_26 (by decide) ?_
  refine va_newa (atype := .int) (a0 := (8, .inl (fun _ => 0))) (ty := .int) hx hb (hts _ (List.mem_cons_of_mem _ tw_74)) rfl hK hP hD hS hA (fun _ => rfl) (iI_nn (by omega)) (by rw [iI_cl (by omega)]; omega) (by show 8 * 4 ≤ 536870912; omega) (by show 0 + 1 + 1 + 1 + 1 ≤ 4; omega) (by show 0 + 3 + 64 + 8 + 8 ≤ 83; omega) dX1_init_28 (fun q4 cA H hK1 hP hD hS => ?_)
  obtain rfl : cI = cA := vx_nmI hK1 1 2 rfl rfl
  have hP : va_P (dC, dI) vwCl [(h, .inr (1, [.ref q1, .ref q3, .null, .int (iI (0))])), (q1, .inr (0, [.int (iI (((65536 : Nat) : Int))), .ref q2, .int (iI (0))])), (q2, .inl (cB, 64, .inl (fun _ => 0))), (q3, .inl (cI, 8, .inl (fun _ => 0))), (q4, .inl (cI, 8, .inl (fun _ => 0)))] H := hP
  have hD : va_D A [(h, .inr (1, [.ref q1, .ref q3, .null, .int (iI (0))])), (q1, .inr (0, [.int (iI (((65536 : Nat) : Int))), .ref q2, .int (iI (0))])), (q2, .inl (cB, 64, .inl (fun _ => 0))), (q3, .inl (cI, 8, .inl (fun _ => 0))), (q4, .inl (cI, 8, .inl (fun _ => 0)))] := hD
  refine va_put (D := (dC, dI)) (ci := 1) (v := .ref q4) (ty := .array .int) (C := "RequestCutter$WordRow") (T := TX1) (N := 4) hx hb hts (fun w h => List.mem_cons_of_mem _ (inX1 w h)) tyX1 tyX1_ok nmX1 hown hK hP hD hS 0 rfl rfl 2 (by decide) (hts _ (List.mem_cons_of_mem _ tw_63)) (fun _ h9 => h9) rfl (by decide +kernel) rfl rfl (Nat.le_of_ble_eq_true rfl) dX1_init_30 (fun H locs hP hD hS => ?_)
  have hP : va_P (dC, dI) vwCl [(h, .inr (1, [.ref q1, .ref q3, .ref q4, .int (iI (0))])), (q1, .inr (0, [.int (iI (((65536 : Nat) : Int))), .ref q2, .int (iI (0))])), (q2, .inl (cB, 64, .inl (fun _ => 0))), (q3, .inl (cI, 8, .inl (fun _ => 0))), (q4, .inl (cI, 8, .inl (fun _ => 0)))] H := hP
  have hD : va_D A [(h, .inr (1, [.ref q1, .ref q3, .ref q4, .int (iI (0))])), (q1, .inr (0, [.int (iI (((65536 : Nat) : Int))), .ref q2, .int (iI (0))])), (q2, .inl (cB, 64, .inl (fun _ => 0))), (q3, .inl (cI, 8, .inl (fun _ => 0))), (q4, .inl (cI, 8, .inl (fun _ => 0)))] := hD
  refine lv_aload_n hx hb dX1_init_33 rfl (lv_at hl 0 rfl) ?_
  refine lv_iconst (v := iI (0)) hx hb dX1_init_34 rfl ?_
  refine va_put (D := (dC, dI)) (ci := 1) (v := .int (iI (0))) (ty := .int) (C := "RequestCutter$WordRow") (T := TX1) (N := 4) hx hb hts (fun w h => List.mem_cons_of_mem _ (inX1 w h)) tyX1 tyX1_ok nmX1 hown hK hP hD hS 0 rfl rfl 3 (by decide) (hts _ (List.mem_cons_of_mem _ tw_64)) (fun _ h9 => h9) rfl (by decide +kernel) rfl rfl (Nat.le_of_ble_eq_true rfl) dX1_init_35 (fun H locs hP hD hS => ?_)
  have hP : va_P (dC, dI) vwCl [(h, .inr (1, [.ref q1, .ref q3, .ref q4, .int (iI (0))])), (q1, .inr (0, [.int (iI (((65536 : Nat) : Int))), .ref q2, .int (iI (0))])), (q2, .inl (cB, 64, .inl (fun _ => 0))), (q3, .inl (cI, 8, .inl (fun _ => 0))), (q4, .inl (cI, 8, .inl (fun _ => 0)))] H := hP
  have hD : va_D A [(h, .inr (1, [.ref q1, .ref q3, .ref q4, .int (iI (0))])), (q1, .inr (0, [.int (iI (((65536 : Nat) : Int))), .ref q2, .int (iI (0))])), (q2, .inl (cB, 64, .inl (fun _ => 0))), (q3, .inl (cI, 8, .inl (fun _ => 0))), (q4, .inl (cI, 8, .inl (fun _ => 0)))] := hD
  exact W.vret hx hb hr (fun t ht hW => ⟨⟨(q1, q2, q3, q4), rfl, trivial, by rw [ht]; exact hP, va_K.moved hW.alike hK, hD⟩, hS.F ht⟩) hS.2.2 dX1_init_38
