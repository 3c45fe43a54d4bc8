/-- the length of a row that grows -/
def gL (lim len need : Nat) : Nat := min lim (max need (2 * len))
set_option maxHeartbeats 4000000 in
set_option maxRecDepth 100000 in
/-- Arrays.copyOf to a greater length -/
theorem c_J7_copyB (l : Launch) (dC : Nat → ClassId) (dI : Nat → Nat → Nat) (cB cI : ClassId) (sz : Nat) (q len N : Nat) (f : Nat → Int32) (hfit : sb_Fit f) (h1 : len < N) (h2 : N ≤ 65536) : Met l yJ7_copyB wJ7_copyB ({ frames := 1, cells := 1, slots := N, locals := 48 }) (va_Pc [.ref q, .int (iI ((N : Int)))] (vx_B (dC, dI) vwCl [(cB, .byte), (cI, .int)] [(q, .inl (cB, len, .inl (f)))] sz)) (va_Qr (fun (u : Unit) => True) (fun (u : Unit) (qn : Nat) => vx_E (dC, dI) vwCl [(cB, .byte), (cI, .int)] (va_A [(q, .inl (cB, len, .inl (f)))] sz) [(q, .inl (cB, len, .inl (f))), (qn, .inl (cB, N, .inl (va_cpy f (fun _ => 0) 0 0 len)))]) (va_A [(q, .inl (cB, len, .inl (f)))] sz)) (1) (N) (va_A [(q, .inl (cB, len, .inl (f)))] sz) := by
  refine Met.ofW (cc := cJ7_copyB) (maxL := 3) (ret := (some (.array .byte))) (by decide) rfl ?_
  intro p e s m args below meth c s₁ B hml hv
  obtain ⟨rfl, hsz, hP, hK, hD0⟩ := hv
  have hx := B.exec
  have hb := B.bytes
  have hr := B.returns
  have hts := atoms_spec (ws := wJ7_copyB) B.pre
  have hown : s.vm.findClass "java/util/Arrays" = some m.cls := findClass_of_methodNamed B.named
  have hlocks := B.notSynchronized
  subst hsz
  have hD := hD0.self (sz := s.heap.size)
  generalize hAe : va_A [(q, .inl (cB, len, .inl (f)))] s.heap.size = A at hD ⊢
  have hA : ∀ q : Nat, s.heap.size ≤ q → A q := fun q h => by rw [← hAe]; exact Or.inr h
  have hS : va_S A s.heap s.heap [] := va_S.rf
  have hP : va_P (dC, dI) vwCl [(q, .inl (cB, len, .inl (f)))] s.heap := hP
  have hl := lv_entry ([.ref q, .int (iI ((N : Int)))]) (n := 3) (Nat.le_of_ble_eq_true rfl)
  rw [lg_entry_eq]
  generalize (lg_sl ([.ref q, .int (iI ((N : Int)))]) ++ List.replicate (3 - (lg_sl ([.ref q, .int (iI ((N : Int)))])).length) Slot.unset).toArray = ls at hl ⊢
  have hl : lv_has ls 3 [(0, .ref q), (1, .int (iI ((N : Int))))] := hl
  refine lv_iload_n hx hb dJ7_copyB_0 rfl (lv_at hl 1 rfl) ?_
  refine lv_aload_n hx hb dJ7_copyB_1 rfl (lv_at hl 0 rfl) ?_
  refine va_alen (v := iI ((len : Nat) : Int)) hx hb hK hP 0 0 rfl rfl (iI_nat _) dJ7_copyB_2 ?_
  refine lx_icmp_ne (a := (N : Int)) (b := ((len : Nat) : Int)) (tgt := 14) hx hb dJ7_copyB_3 (by decide) (by omega) (by omega) (fun cq1 => ?_) (fun cq1 => ?_)
  · refine lv_iload_n hx hb dJ7_copyB_14 rfl (lv_at hl 1 rfl) ?_
    refine va_newa (atype := .byte) (a0 := (N, .inl (fun _ => 0))) (ty := .byte) hx hb (hts _ (List.mem_cons_of_mem _ tw_50)) rfl hK hP hD hS hA (fun _ => rfl) (iI_nn (by omega)) (by rw [iI_cl (by omega)]; omega) (by show N * 1 ≤ 536870912; omega) (Nat.le_of_ble_eq_true rfl) (Nat.le_of_eq (Nat.zero_add N)) dJ7_copyB_15 (fun q2 cA H hK1 hP hD hS => ?_)
    obtain rfl : cB = cA := vx_nmB hK1 0 2 rfl rfl
    have hP : va_P (dC, dI) vwCl [(q, .inl (cB, len, .inl (f))), (q2, .inl (cB, N, .inl (fun _ => 0)))] H := hP
    have hD : va_D A [(q, .inl (cB, len, .inl (f))), (q2, .inl (cB, N, .inl (fun _ => 0)))] := hD
    refine W.widen (k := 1) (n := N) (by omega) (by omega) ?_
    refine lv_astore_n (lv' := [(2, .ref q2), (0, .ref q), (1, .int (iI ((N : Int))))]) hx hb dJ7_copyB_17 rfl hl (by decide) rfl (fun ls hl => ?_)
    refine lv_aload_n hx hb dJ7_copyB_18 rfl (lv_at hl 1 rfl) ?_
    refine lv_iconst (v := iI (0)) hx hb dJ7_copyB_19 rfl ?_
    refine lv_aload_n hx hb dJ7_copyB_20 rfl (lv_at hl 0 rfl) ?_
    refine lv_iconst (v := iI (0)) hx hb dJ7_copyB_21 rfl ?_
    refine lv_aload_n hx hb dJ7_copyB_22 rfl (lv_at hl 1 rfl) ?_
    refine va_alen (v := iI ((len : Nat) : Int)) hx hb hK hP 0 0 rfl rfl (iI_nat _) dJ7_copyB_23 ?_
    refine lv_iload_n hx hb dJ7_copyB_24 rfl (lv_at hl 2 rfl) ?_
    refine lx_min (a := ((len : Nat) : Int)) (b := (N : Int)) hx hb (by rw [hml]; exact hl.1.symm) hown (hts _ (List.mem_cons_of_mem _ tw_115)) (hts _ (List.mem_cons_of_mem _ tw_103)) (hts _ (List.mem_cons_of_mem _ tw_23)) (hts _ (List.mem_cons_of_mem _ tw_104)) (Nat.le_of_ble_eq_true rfl) (Nat.le_of_ble_eq_true rfl) (Nat.le_refl _) (Nat.le_refl _) (by omega) (by omega) dJ7_copyB_25 ?_
    refine lx_copy (ty := .byte) (sp := 0) (dp := 0) (n := min (((len : Nat) : Int)) ((N : Int))) hx hb (by rw [hml]; exact hl.1.symm) hown (hts _ (List.mem_cons_of_mem _ tw_116)) (hts _ (List.mem_cons_of_mem _ tw_118)) (hts _ (List.mem_cons_of_mem _ tw_117)) (hts _ (List.mem_cons_of_mem _ tw_25)) hK hP hD hS 0 1 0 0 rfl rfl rfl rfl rfl (0) (0) (len) (by omega) (by omega) (by omega) (by omega) (by omega) (by omega) (fun i _ => hfit i) (Nat.le_of_ble_eq_true rfl) (Nat.le_of_ble_eq_true rfl) dJ7_copyB_28 (fun H locs hP hD hS => ?_)
    have hP : va_P (dC, dI) vwCl [(q, .inl (cB, len, .inl (f))), (q2, .inl (cB, N, .inl (va_cpy (f) (fun _ => 0) (0) (0) (len))))] H := hP
    have hD : va_D A [(q, .inl (cB, len, .inl (f))), (q2, .inl (cB, N, .inl (va_cpy (f) (fun _ => 0) (0) (0) (len))))] := hD
    refine lv_aload_n hx hb dJ7_copyB_31 rfl (lv_at hl 0 rfl) ?_
    exact W.aret (v := .ref q2) hx hb hr (Or.inr ⟨_, rfl⟩) (Or.inr ⟨_, rfl⟩) (fun t ht hW => ⟨⟨(), q2, rfl, trivial, by rw [ht]; exact hP, va_K.moved hW.alike hK, hD⟩, hS.F ht⟩) hS.2.2 dJ7_copyB_32
  · exact absurd cq1 (by omega)
set_option maxHeartbeats 4000000 in
set_option maxRecDepth 100000 in
/-- Arrays.copyOf to a greater length -/
theorem c_J7_copyI (l : Launch) (dC : Nat → ClassId) (dI : Nat → Nat → Nat) (cB cI : ClassId) (sz : Nat) (q len N : Nat) (f : Nat → Int32) (h1 : len < N) (h2 : N ≤ 65536) : Met l yJ7_copyI wJ7_copyI ({ frames := 1, cells := 1, slots := N, locals := 48 }) (va_Pc [.ref q, .int (iI ((N : Int)))] (vx_B (dC, dI) vwCl [(cB, .byte), (cI, .int)] [(q, .inl (cI, len, .inl (f)))] sz)) (va_Qr (fun (u : Unit) => True) (fun (u : Unit) (qn : Nat) => vx_E (dC, dI) vwCl [(cB, .byte), (cI, .int)] (va_A [(q, .inl (cI, len, .inl (f)))] sz) [(q, .inl (cI, len, .inl (f))), (qn, .inl (cI, N, .inl (va_cpy f (fun _ => 0) 0 0 len)))]) (va_A [(q, .inl (cI, len, .inl (f)))] sz)) (1) (N) (va_A [(q, .inl (cI, len, .inl (f)))] sz) := by
  refine Met.ofW (cc := cJ7_copyI) (maxL := 3) (ret := (some (.array .int))) (by decide) rfl ?_
  intro p e s m args below meth c s₁ B hml hv
  obtain ⟨rfl, hsz, hP, hK, hD0⟩ := hv
  have hx := B.exec
  have hb := B.bytes
  have hr := B.returns
  have hts := atoms_spec (ws := wJ7_copyI) B.pre
  have hown : s.vm.findClass "java/util/Arrays" = some m.cls := findClass_of_methodNamed B.named
  have hlocks := B.notSynchronized
  subst hsz
  have hD := hD0.self (sz := s.heap.size)
  generalize hAe : va_A [(q, .inl (cI, len, .inl (f)))] s.heap.size = A at hD ⊢
  have hA : ∀ q : Nat, s.heap.size ≤ q → A q := fun q h => by rw [← hAe]; exact Or.inr h
  have hS : va_S A s.heap s.heap [] := va_S.rf
  have hP : va_P (dC, dI) vwCl [(q, .inl (cI, len, .inl (f)))] s.heap := hP
  have hl := lv_entry ([.ref q, .int (iI ((N : Int)))]) (n := 3) (Nat.le_of_ble_eq_true rfl)
  rw [lg_entry_eq]
  generalize (lg_sl ([.ref q, .int (iI ((N : Int)))]) ++ List.replicate (3 - (lg_sl ([.ref q, .int (iI ((N : Int)))])).length) Slot.unset).toArray = ls at hl ⊢
  have hl : lv_has ls 3 [(0, .ref q), (1, .int (iI ((N : Int))))] := hl
  refine lv_iload_n hx hb dJ7_copyI_0 rfl (lv_at hl 1 rfl) ?_
  refine lv_aload_n hx hb dJ7_copyI_1 rfl (lv_at hl 0 rfl) ?_
  refine va_alen (v := iI ((len : Nat) : Int)) hx hb hK hP 0 1 rfl rfl (iI_nat _) dJ7_copyI_2 ?_
  refine lx_icmp_ne (a := (N : Int)) (b := ((len : Nat) : Int)) (tgt := 14) hx hb dJ7_copyI_3 (by decide) (by omega) (by omega) (fun cq1 => ?_) (fun cq1 => ?_)
  · refine lv_iload_n hx hb dJ7_copyI_14 rfl (lv_at hl 1 rfl) ?_
    refine va_newa (atype := .int) (a0 := (N, .inl (fun _ => 0))) (ty := .int) hx hb (hts _ (List.mem_cons_of_mem _ tw_74)) rfl hK hP hD hS hA (fun _ => rfl) (iI_nn (by omega)) (by rw [iI_cl (by omega)]; omega) (by show N * 4 ≤ 536870912; omega) (Nat.le_of_ble_eq_true rfl) (Nat.le_of_eq (Nat.zero_add N)) dJ7_copyI_15 (fun q2 cA H hK1 hP hD hS => ?_)
    obtain rfl : cI = cA := vx_nmI hK1 1 2 rfl rfl
    have hP : va_P (dC, dI) vwCl [(q, .inl (cI, len, .inl (f))), (q2, .inl (cI, N, .inl (fun _ => 0)))] H := hP
    have hD : va_D A [(q, .inl (cI, len, .inl (f))), (q2, .inl (cI, N, .inl (fun _ => 0)))] := hD
    refine W.widen (k := 1) (n := N) (by omega) (by omega) ?_
    refine lv_astore_n (lv' := [(2, .ref q2), (0, .ref q), (1, .int (iI ((N : Int))))]) hx hb dJ7_copyI_17 rfl hl (by decide) rfl (fun ls hl => ?_)
    refine lv_aload_n hx hb dJ7_copyI_18 rfl (lv_at hl 1 rfl) ?_
    refine lv_iconst (v := iI (0)) hx hb dJ7_copyI_19 rfl ?_
    refine lv_aload_n hx hb dJ7_copyI_20 rfl (lv_at hl 0 rfl) ?_
    refine lv_iconst (v := iI (0)) hx hb dJ7_copyI_21 rfl ?_
    refine lv_aload_n hx hb dJ7_copyI_22 rfl (lv_at hl 1 rfl) ?_
    refine va_alen (v := iI ((len : Nat) : Int)) hx hb hK hP 0 1 rfl rfl (iI_nat _) dJ7_copyI_23 ?_
    refine lv_iload_n hx hb dJ7_copyI_24 rfl (lv_at hl 2 rfl) ?_
    refine lx_min (a := ((len : Nat) : Int)) (b := (N : Int)) hx hb (by rw [hml]; exact hl.1.symm) hown (hts _ (List.mem_cons_of_mem _ tw_115)) (hts _ (List.mem_cons_of_mem _ tw_103)) (hts _ (List.mem_cons_of_mem _ tw_23)) (hts _ (List.mem_cons_of_mem _ tw_104)) (Nat.le_of_ble_eq_true rfl) (Nat.le_of_ble_eq_true rfl) (Nat.le_refl _) (Nat.le_refl _) (by omega) (by omega) dJ7_copyI_25 ?_
    refine lx_copy (ty := .int) (sp := 0) (dp := 0) (n := min (((len : Nat) : Int)) ((N : Int))) hx hb (by rw [hml]; exact hl.1.symm) hown (hts _ (List.mem_cons_of_mem _ tw_116)) (hts _ (List.mem_cons_of_mem _ tw_118)) (hts _ (List.mem_cons_of_mem _ tw_117)) (hts _ (List.mem_cons_of_mem _ tw_25)) hK hP hD hS 0 1 1 1 rfl rfl rfl rfl rfl (0) (0) (len) (by omega) (by omega) (by omega) (by omega) (by omega) (by omega) (fun _ _ => rfl) (Nat.le_of_ble_eq_true rfl) (Nat.le_of_ble_eq_true rfl) dJ7_copyI_28 (fun H locs hP hD hS => ?_)
    have hP : va_P (dC, dI) vwCl [(q, .inl (cI, len, .inl (f))), (q2, .inl (cI, N, .inl (va_cpy (f) (fun _ => 0) (0) (0) (len))))] H := hP
    have hD : va_D A [(q, .inl (cI, len, .inl (f))), (q2, .inl (cI, N, .inl (va_cpy (f) (fun _ => 0) (0) (0) (len))))] := hD
    refine lv_aload_n hx hb dJ7_copyI_31 rfl (lv_at hl 0 rfl) ?_
    exact W.aret (v := .ref q2) hx hb hr (Or.inr ⟨_, rfl⟩) (Or.inr ⟨_, rfl⟩) (fun t ht hW => ⟨⟨(), q2, rfl, trivial, by rw [ht]; exact hP, va_K.moved hW.alike hK, hD⟩, hS.F ht⟩) hS.2.2 dJ7_copyI_32
  · exact absurd cq1 (by omega)
set_option maxHeartbeats 4000000 in
set_option maxRecDepth 100000 in
/-- ByteRow(limit): 64 places, none taken -/
theorem c_X0_init (l : Launch) (dC : Nat → ClassId) (dI : Nat → Nat → Nat) (cB cI : ClassId) (sz : Nat) (h lim : Nat) (hm : lim ≤ 65536) : Met l yX0_init wX0_init ({ frames := 1, cells := 1, slots := 64, locals := 21 }) (va_Pc [.ref h, .int (iI ((lim : Int)))] (vx_B (dC, dI) vwCl [(cB, .byte), (cI, .int)] [(h, .inr (0, [.int (iI (0)), .null, .int (iI (0))]))] sz)) (va_Qv (fun (u : Nat) => True) (fun (u : Nat) => vx_E (dC, dI) vwCl [(cB, .byte), (cI, .int)] (va_A [(h, .inr (0, [.int (iI (0)), .null, .int (iI (0))]))] sz) [(h, .inr (0, [.int (iI ((lim : Int))), .ref u, .int (iI (0))])), (u, .inl (cB, 64, .inl (fun _ => 0)))]) (va_A [(h, .inr (0, [.int (iI (0)), .null, .int (iI (0))]))] sz)) (1) (64) (va_A [(h, .inr (0, [.int (iI (0)), .null, .int (iI (0))]))] sz) := by
  refine Met.ofW (cc := cX0_init) (maxL := 2) (ret := none) (by decide) rfl ?_
  intro p e s m args below meth c s₁ B hml hv
  obtain ⟨rfl, hsz, hP, hK, hD0⟩ := hv
  have hx := B.exec
  have hb := B.bytes
  have hr := B.returns
  have hts := atoms_spec (ws := wX0_init) B.pre
  have hown : s.vm.findClass "RequestCutter$ByteRow" = some m.cls := findClass_of_methodNamed B.named
  have hlocks := B.notSynchronized
  have hin : meth.name = "<init>" := (name_of_methodNamed B.named B.method).1
  subst hsz
  have hD := hD0.self (sz := s.heap.size)
  generalize hAe : va_A [(h, .inr (0, [.int (iI (0)), .null, .int (iI (0))]))] s.heap.size = A at hD ⊢
  have hA : ∀ q : Nat, s.heap.size ≤ q → A q := fun q h => by rw [← hAe]; exact Or.inr h
  have hS : va_S A s.heap s.heap [] := va_S.rf
  have hP : va_P (dC, dI) vwCl [(h, .inr (0, [.int (iI (0)), .null, .int (iI (0))]))] s.heap := hP
  have hl := lv_entry ([.ref h, .int (iI ((lim : Int)))]) (n := 2) (Nat.le_of_ble_eq_true rfl)
  rw [lg_entry_eq]
  generalize (lg_sl ([.ref h, .int (iI ((lim : Int)))]) ++ List.replicate (2 - (lg_sl ([.ref h, .int (iI ((lim : Int)))])).length) Slot.unset).toArray = ls at hl ⊢
  have hl : lv_has ls 2 [(0, .ref h), (1, .int (iI ((lim : Int))))] := hl
  refine lv_aload_n hx hb dX0_init_0 rfl (lv_at hl 0 rfl) ?_
  refine W.objInit hx hb hown (hts _ (List.mem_cons_of_mem _ tw_39)) (hts _ (List.mem_cons_of_mem _ tw_32)) (hts _ (List.mem_cons_of_mem _ tw_33)) rfl (by rw [hml]; exact hl.1) rfl dX0_init_1 (Nat.le_of_ble_eq_true rfl) (Nat.le_of_ble_eq_true rfl) ?_
  refine W.eq (g2 := F0 m 4 ls []) rfl ?_
  refine lv_aload_n hx hb dX0_init_4 rfl (lv_at hl 0 rfl) ?_
  refine lv_iload_n hx hb dX0_init_5 rfl (lv_at hl 1 rfl) ?_
  refine va_putF (D := (dC, dI)) (ci := 0) (v := .int (iI ((lim : Int)))) (ty := .int) (C := "RequestCutter$ByteRow") (T := TX0) (N := 3) hx hb hts (fun w h => List.mem_cons_of_mem _ (inX0 w h)) tyX0 tyX0_ok nmX0 hown hK hP hD hS 0 rfl rfl 0 (by decide) (hts _ (List.mem_cons_of_mem _ tw_40)) (fun _ h9 => h9) rfl hin rfl (by decide +kernel) rfl rfl (Nat.le_of_ble_eq_true rfl) dX0_init_6 (fun H locs hP hD hS => ?_)
  have hP : va_P (dC, dI) vwCl [(h, .inr (0, [.int (iI ((lim : Int))), .null, .int (iI (0))]))] H := hP
  have hD : va_D A [(h, .inr (0, [.int (iI ((lim : Int))), .null, .int (iI (0))]))] := hD
  refine lv_aload_n hx hb dX0_init_9 rfl (lv_at hl 0 rfl) ?_
  refine lv_bipush (v := iI (64)) hx hb dX0_init_10 (by decide) ?_
  refine va_newa (atype := .byte) (a0 := (64, .inl (fun _ => 0))) (ty := .byte) hx hb (hts _ (List.mem_cons_of_mem _ tw_50)) rfl hK hP hD hS hA (fun _ => rfl) (iI_nn (by omega)) (by rw [iI_cl (by omega)]; omega) (by show 64 * 1 ≤ 536870912; omega) (Nat.le_of_ble_eq_true rfl) (Nat.le_of_ble_eq_true rfl) dX0_init_12 (fun q1 cA H hK1 hP hD hS => ?_)
  obtain rfl : cB = cA := vx_nmB hK1 0 2 rfl rfl
  have hP : va_P (dC, dI) vwCl [(h, .inr (0, [.int (iI ((lim : Int))), .null, .int (iI (0))])), (q1, .inl (cB, 64, .inl (fun _ => 0)))] H := hP
  have hD : va_D A [(h, .inr (0, [.int (iI ((lim : Int))), .null, .int (iI (0))])), (q1, .inl (cB, 64, .inl (fun _ => 0)))] := hD
  refine va_put (D := (dC, dI)) (ci := 0) (v := .ref q1) (ty := .array .byte) (C := "RequestCutter$ByteRow") (T := TX0) (N := 3) hx hb hts (fun w h => List.mem_cons_of_mem _ (inX0 w h)) tyX0 tyX0_ok nmX0 hown hK hP hD hS 0 rfl rfl 1 (by decide) (hts _ (List.mem_cons_of_mem _ tw_41)) (fun _ h9 => h9) rfl (by decide +kernel) rfl rfl (Nat.le_of_ble_eq_true rfl) dX0_init_14 (fun H locs hP hD hS => ?_)
  have hP : va_P (dC, dI) vwCl [(h, .inr (0, [.int (iI ((lim : Int))), .ref q1, .int (iI (0))])), (q1, .inl (cB, 64, .inl (fun _ => 0)))] H := hP
  have hD : va_D A [(h, .inr (0, [.int (iI ((lim : Int))), .ref q1, .int (iI (0))])), (q1, .inl (cB, 64, .inl (fun _ => 0)))] := hD
  refine lv_aload_n hx hb dX0_init_17 rfl (lv_at hl 0 rfl) ?_
  refine lv_iconst (v := iI (0)) hx hb dX0_init_18 rfl ?_
  refine va_put (D := (dC, dI)) (ci := 0) (v := .int (iI (0))) (ty := .int) (C := "RequestCutter$ByteRow") (T := TX0) (N := 3) hx hb hts (fun w h => List.mem_cons_of_mem _ (inX0 w h)) tyX0 tyX0_ok nmX0 hown hK hP hD hS 0 rfl rfl 2 (by decide) (hts _ (List.mem_cons_of_mem _ tw_42)) (fun _ h9 => h9) rfl (by decide +kernel) rfl rfl (Nat.le_of_ble_eq_true rfl) dX0_init_19 (fun H locs hP hD hS => ?_)
  have hP : va_P (dC, dI) vwCl [(h, .inr (0, [.int (iI ((lim : Int))), .ref q1, .int (iI (0))])), (q1, .inl (cB, 64, .inl (fun _ => 0)))] H := hP
  have hD : va_D A [(h, .inr (0, [.int (iI ((lim : Int))), .ref q1, .int (iI (0))])), (q1, .inl (cB, 64, .inl (fun _ => 0)))] := hD
  exact W.vret hx hb hr (fun t ht hW => ⟨⟨q1, rfl, trivial, by rw [ht]; exact hP, va_K.moved hW.alike hK, hD⟩, hS.F ht⟩) hS.2.2 dX0_init_22
set_option maxHeartbeats 4000000 in
set_option maxRecDepth 100000 in
/-- count(): how many -/
theorem c_X0_count (l : Launch) (dC : Nat → ClassId) (dI : Nat → Nat → Nat) (cB cI : ClassId) (h q lim cnt : Nat) : Met l yX0_count wX0_count ({ frames := 0, cells := 0, slots := 0, locals := 0 }) (va_Pc [.ref h] (vx_R (dC, dI) vwCl [(cB, .byte), (cI, .int)] [(h, .inr (0, [.int (iI ((lim : Int))), .ref q, .int (iI ((cnt : Int)))]))])) (vp_Si (fun r => r = iI (cnt : Int))) 0 0 (fun _ => False) := by
  refine Met.ofW (cc := cX0_count) (maxL := 1) (ret := (some .int)) (by decide) rfl ?_
  intro p e s m args below meth c s₁ B hml hv
  obtain ⟨rfl, hP, hK⟩ := hv
  have hx := B.exec
  have hb := B.bytes
  have hr := B.returns
  have hts := atoms_spec (ws := wX0_count) B.pre
  have hown : s.vm.findClass "RequestCutter$ByteRow" = some m.cls := findClass_of_methodNamed B.named
  have hlocks := B.notSynchronized
  have hP : va_P (dC, dI) vwCl [(h, .inr (0, [.int (iI ((lim : Int))), .ref q, .int (iI ((cnt : Int)))]))] s.heap := hP
  have hl := lv_entry ([.ref h]) (n := 1) (Nat.le_of_ble_eq_true rfl)
  rw [lg_entry_eq]
  generalize (lg_sl ([.ref h]) ++ List.replicate (1 - (lg_sl ([.ref h])).length) Slot.unset).toArray = ls at hl ⊢
  have hl : lv_has ls 1 [(0, .ref h)] := hl
  refine lv_aload_n hx hb dX0_count_0 rfl (lv_at hl 0 rfl) ?_
  refine va_get (D := (dC, dI)) (ci := 0) (v := .int (iI ((cnt : Int)))) (C := "RequestCutter$ByteRow") (T := TX0) (N := 3) hx hb hts (fun w h => List.mem_cons_of_mem _ (inX0 w h)) hown hK hP 0 rfl rfl 2 (by decide) (hts _ (List.mem_cons_of_mem _ tw_42)) (fun _ h9 => h9) rfl dX0_count_1 ?_
  exact W.iret (v := iI ((cnt : Int))) hx hb hr (fun t ht hW => ⟨iI ((cnt : Int)), rfl, rfl, ht⟩) (fun _ h => by cases h) dX0_count_4
set_option maxHeartbeats 4000000 in
set_option maxRecDepth 100000 in
/-- at(i): the byte, or -1 -/
theorem c_X0_at (l : Launch) (dC : Nat → ClassId) (dI : Nat → Nat → Nat) (cB cI : ClassId) (h q lim len cnt : Nat) (f : Nat → Int32) (hc : cnt ≤ len) (hn : len ≤ 65536) (i : Int) (hi : -2147483648 ≤ i ∧ i ≤ 2147483647) : Met l yX0_at wX0_at ({ frames := 0, cells := 0, slots := 0, locals := 0 }) (va_Pc [.ref h, .int (iI (i))] (vx_R (dC, dI) vwCl [(cB, .byte), (cI, .int)] [(h, .inr (0, [.int (iI ((lim : Int))), .ref q, .int (iI ((cnt : Int)))])), (q, .inl (cB, len, .inl (f)))])) (vp_Si (fun r => r = iI (bA f cnt i))) 0 0 (fun _ => False) := by
  refine Met.ofW (cc := cX0_at) (maxL := 2) (ret := (some .int)) (by decide) rfl ?_
  intro p e s m args below meth c s₁ B hml hv
  obtain ⟨rfl, hP, hK⟩ := hv
  have hx := B.exec
  have hb := B.bytes
  have hr := B.returns
  have hts := atoms_spec (ws := wX0_at) B.pre
  have hown : s.vm.findClass "RequestCutter$ByteRow" = some m.cls := findClass_of_methodNamed B.named
  have hlocks := B.notSynchronized
  have hP : va_P (dC, dI) vwCl [(h, .inr (0, [.int (iI ((lim : Int))), .ref q, .int (iI ((cnt : Int)))])), (q, .inl (cB, len, .inl (f)))] s.heap := hP
  have hl := lv_entry ([.ref h, .int (iI (i))]) (n := 2) (Nat.le_of_ble_eq_true rfl)
  rw [lg_entry_eq]
  generalize (lg_sl ([.ref h, .int (iI (i))]) ++ List.replicate (2 - (lg_sl ([.ref h, .int (iI (i))])).length) Slot.unset).toArray = ls at hl ⊢
  have hl : lv_has ls 2 [(0, .ref h), (1, .int (iI (i)))] := hl
  refine lv_iload_n hx hb dX0_at_0 rfl (lv_at hl 1 rfl) ?_
  refine lx_if_lt (a := i) (tgt := 25) hx hb dX0_at_1 (by decide) (by omega) (fun cq1 => ?_) (fun cq1 => ?_)
  · refine lv_iconst (v := iI (-1)) hx hb dX0_at_25 rfl ?_
    exact W.iret (v := iI (-1)) hx hb hr (fun t ht hW => ⟨iI (-1), rfl, by rw [bA_out (by omega)], ht⟩) (fun _ h => by cases h) dX0_at_26
  · refine lv_iload_n hx hb dX0_at_4 rfl (lv_at hl 1 rfl) ?_
    refine lv_aload_n hx hb dX0_at_5 rfl (lv_at hl 0 rfl) ?_
    refine va_get (D := (dC, dI)) (ci := 0) (v := .int (iI ((cnt : Int)))) (C := "RequestCutter$ByteRow") (T := TX0) (N := 3) hx hb hts (fun w h => List.mem_cons_of_mem _ (inX0 w h)) hown hK hP 0 rfl rfl 2 (by decide) (hts _ (List.mem_cons_of_mem _ tw_42)) (fun _ h9 => h9) rfl dX0_at_6 ?_
    refine lx_icmp_ge (a := i) (b := (cnt : Int)) (tgt := 25) hx hb dX0_at_9 (by decide) (by omega) (by omega) (fun cq2 => ?_) (fun cq2 => ?_)
    · refine lv_iconst (v := iI (-1)) hx hb dX0_at_25 rfl ?_
      exact W.iret (v := iI (-1)) hx hb hr (fun t ht hW => ⟨iI (-1), rfl, by rw [bA_out (by omega)], ht⟩) (fun _ h => by cases h) dX0_at_26
    · refine lv_aload_n hx hb dX0_at_12 rfl (lv_at hl 0 rfl) ?_
      refine va_get (D := (dC, dI)) (ci := 0) (v := .ref q) (C := "RequestCutter$ByteRow") (T := TX0) (N := 3) hx hb hts (fun w h => List.mem_cons_of_mem _ (inX0 w h)) hown hK hP 0 rfl rfl 1 (by decide) (hts _ (List.mem_cons_of_mem _ tw_41)) (fun _ h9 => h9) rfl dX0_at_13 ?_
      refine lv_iload_n hx hb dX0_at_16 rfl (lv_at hl 1 rfl) ?_
      refine va_bald hx hb hK hP 1 0 rfl rfl (iI_in (by omega)) dX0_at_17 ?_
      refine lx_top (x2 := (f) ((i).toNat)) (congrArg (f) (iI_cl (a := i) (by omega))) ?_
      refine lv_sipush (v := iI (255)) hx hb dX0_at_18 (by decide) ?_
      refine lx_iand255 (x := (f) ((i).toNat)) hx hb dX0_at_21 ?_
      refine lv_goto (tgt := 26) hx hb dX0_at_22 (by decide) ?_
      exact W.iret (v := iI (bv ((f) ((i).toNat)))) hx hb hr (fun t ht hW => ⟨iI (bv ((f) ((i).toNat))), rfl, by rw [bA_in (by omega)], ht⟩) (fun _ h => by cases h) dX0_at_26
set_option maxHeartbeats 4000000 in
set_option maxRecDepth 100000 in
/-- clear(): none left -/
theorem c_X0_clear (l : Launch) (dC : Nat → ClassId) (dI : Nat → Nat → Nat) (cB cI : ClassId) (sz : Nat) (h q lim cnt : Nat) : Met l yX0_clear wX0_clear ({ frames := 0, cells := 0, slots := 0, locals := 0 }) (va_Pc [.ref h] (vx_B (dC, dI) vwCl [(cB, .byte), (cI, .int)] [(h, .inr (0, [.int (iI ((lim : Int))), .ref q, .int (iI ((cnt : Int)))]))] sz)) (va_Qv (fun (u : Unit) => True) (fun (u : Unit) => vx_E (dC, dI) vwCl [(cB, .byte), (cI, .int)] (va_A [(h, .inr (0, [.int (iI ((lim : Int))), .ref q, .int (iI ((cnt : Int)))]))] sz) [(h, .inr (0, [.int (iI ((lim : Int))), .ref q, .int (iI (0))]))]) (va_A [(h, .inr (0, [.int (iI ((lim : Int))), .ref q, .int (iI ((cnt : Int)))]))] sz)) (0) (0) (va_A [(h, .inr (0, [.int (iI ((lim : Int))), .ref q, .int (iI ((cnt : Int)))]))] sz) := by
  refine Met.ofW (cc := cX0_clear) (maxL := 1) (ret := none) (by decide) rfl ?_
  intro p e s m args below meth c s₁ B hml hv
  obtain ⟨rfl, hsz, hP, hK, hD0⟩ := hv
  have hx := B.exec
  have hb := B.bytes
  have hr := B.returns
  have hts := atoms_spec (ws := wX0_clear) B.pre
  have hown : s.vm.findClass "RequestCutter$ByteRow" = some m.cls := findClass_of_methodNamed B.named
  have hlocks := B.notSynchronized
  subst hsz
  have hD := hD0.self (sz := s.heap.size)
  generalize hAe : va_A [(h, .inr (0, [.int (iI ((lim : Int))), .ref q, .int (iI ((cnt : Int)))]))] s.heap.size = A at hD ⊢
  have hA : ∀ q : Nat, s.heap.size ≤ q → A q := fun q h => by rw [← hAe]; exact Or.inr h
  have hS : va_S A s.heap s.heap [] := va_S.rf
  have hP : va_P (dC, dI) vwCl [(h, .inr (0, [.int (iI ((lim : Int))), .ref q, .int (iI ((cnt : Int)))]))] s.heap := hP
  have hl := lv_entry ([.ref h]) (n := 1) (Nat.le_of_ble_eq_true rfl)
  rw [lg_entry_eq]
  generalize (lg_sl ([.ref h]) ++ List.replicate (1 - (lg_sl ([.ref h])).length) Slot.unset).toArray = ls at hl ⊢
  have hl : lv_has ls 1 [(0, .ref h)] := hl
  refine lv_aload_n hx hb dX0_clear_0 rfl (lv_at hl 0 rfl) ?_
  refine lv_iconst (v := iI (0)) hx hb dX0_clear_1 rfl ?_
  refine va_put (D := (dC, dI)) (ci := 0) (v := .int (iI (0))) (ty := .int) (C := "RequestCutter$ByteRow") (T := TX0) (N := 3) hx hb hts (fun w h => List.mem_cons_of_mem _ (inX0 w h)) tyX0 tyX0_ok nmX0 hown hK hP hD hS 0 rfl rfl 2 (by decide) (hts _ (List.mem_cons_of_mem _ tw_42)) (fun _ h9 => h9) rfl (by decide +kernel) rfl rfl (Nat.le_of_ble_eq_true rfl) dX0_clear_2 (fun H locs hP hD hS => ?_)
  have hP : va_P (dC, dI) vwCl [(h, .inr (0, [.int (iI ((lim : Int))), .ref q, .int (iI (0))]))] H := hP
  have hD : va_D A [(h, .inr (0, [.int (iI ((lim : Int))), .ref q, .int (iI (0))]))] := hD
  exact W.vret hx hb hr (fun t ht hW => ⟨⟨(), rfl, trivial, by rw [ht]; exact hP, va_K.moved hW.alike hK, hD⟩, hS.F ht⟩) hS.2.2 dX0_clear_5
set_option maxHeartbeats 4000000 in
set_option maxRecDepth 100000 in
/-- keepFirst(n): of all only the first n -/
theorem c_X0_keepFirst (l : Launch) (dC : Nat → ClassId) (dI : Nat → Nat → Nat) (cB cI : ClassId) (sz : Nat) (h q lim cnt : Nat) (hn : cnt ≤ 65536) (i : Int) (hi : -2147483648 ≤ i ∧ i ≤ 2147483647) : Met l yX0_keepFirst wX0_keepFirst ({ frames := 0, cells := 0, slots := 0, locals := 0 }) (va_Pc [.ref h, .int (iI (i))] (vx_B (dC, dI) vwCl [(cB, .byte), (cI, .int)] [(h, .inr (0, [.int (iI ((lim : Int))), .ref q, .int (iI ((cnt : Int)))]))] sz)) (va_Qi (fun (r : Int32) (u : Int) => r = iI (if 0 ≤ i ∧ i ≤ cnt then 1 else 0) ∧ u = (if 0 ≤ i ∧ i ≤ cnt then i else cnt)) (fun (u : Int) => vx_E (dC, dI) vwCl [(cB, .byte), (cI, .int)] (va_A [(h, .inr (0, [.int (iI ((lim : Int))), .ref q, .int (iI ((cnt : Int)))]))] sz) [(h, .inr (0, [.int (iI ((lim : Int))), .ref q, .int (iI (u))]))]) (va_A [(h, .inr (0, [.int (iI ((lim : Int))), .ref q, .int (iI ((cnt : Int)))]))] sz)) (0) (0) (va_A [(h, .inr (0, [.int (iI ((lim : Int))), .ref q, .int (iI ((cnt : Int)))]))] sz) := by
  refine Met.ofW (cc := cX0_keepFirst) (maxL := 2) (ret := (some .boolean)) (by decide) rfl ?_
  intro p e s m args below meth c s₁ B hml hv
  obtain ⟨rfl, hsz, hP, hK, hD0⟩ := hv
  have hx := B.exec
  have hb := B.bytes
  have hr := B.returns
  have hts := atoms_spec (ws := wX0_keepFirst) B.pre
  have hown : s.vm.findClass "RequestCutter$ByteRow" = some m.cls := findClass_of_methodNamed B.named
  have hlocks := B.notSynchronized
  subst hsz
  have hD := hD0.self (sz := s.heap.size)
  generalize hAe : va_A [(h, .inr (0, [.int (iI ((lim : Int))), .ref q, .int (iI ((cnt : Int)))]))] s.heap.size = A at hD ⊢
  have hA : ∀ q : Nat, s.heap.size ≤ q → A q := fun q h => by rw [← hAe]; exact Or.inr h
  have hS : va_S A s.heap s.heap [] := va_S.rf
  have hP : va_P (dC, dI) vwCl [(h, .inr (0, [.int (iI ((lim : Int))), .ref q, .int (iI ((cnt : Int)))]))] s.heap := hP
  have hl := lv_entry ([.ref h, .int (iI (i))]) (n := 2) (Nat.le_of_ble_eq_true rfl)
  rw [lg_entry_eq]
  generalize (lg_sl ([.ref h, .int (iI (i))]) ++ List.replicate (2 - (lg_sl ([.ref h, .int (iI (i))])).length) Slot.unset).toArray = ls at hl ⊢
  have hl : lv_has ls 2 [(0, .ref h), (1, .int (iI (i)))] := hl
  refine lv_iload_n hx hb dX0_keepFirst_0 rfl (lv_at hl 1 rfl) ?_
  refine lx_if_lt (a := i) (tgt := 12) hx hb dX0_keepFirst_1 (by decide) (by omega) (fun cq1 => ?_) (fun cq1 => ?_)
  · refine lv_iconst (v := iI (0)) hx hb dX0_keepFirst_12 rfl ?_
    exact W.zret (v := iI (0)) hx hb hr (by rfl) (fun t ht hW => ⟨⟨iI (0), ((cnt : Int)), rfl, ⟨by rw [if_neg (by omega)], by rw [if_neg (by omega)]⟩, by rw [ht]; exact hP, va_K.moved hW.alike hK, hD⟩, hS.F ht⟩) hS.2.2 dX0_keepFirst_13
  · refine lv_iload_n hx hb dX0_keepFirst_4 rfl (lv_at hl 1 rfl) ?_
    refine lv_aload_n hx hb dX0_keepFirst_5 rfl (lv_at hl 0 rfl) ?_
    refine va_get (D := (dC, dI)) (ci := 0) (v := .int (iI ((cnt : Int)))) (C := "RequestCutter$ByteRow") (T := TX0) (N := 3) hx hb hts (fun w h => List.mem_cons_of_mem _ (inX0 w h)) hown hK hP 0 rfl rfl 2 (by decide) (hts _ (List.mem_cons_of_mem _ tw_42)) (fun _ h9 => h9) rfl dX0_keepFirst_6 ?_
    refine lx_icmp_le (a := i) (b := (cnt : Int)) (tgt := 14) hx hb dX0_keepFirst_9 (by decide) (by omega) (by omega) (fun cq2 => ?_) (fun cq2 => ?_)
    · refine lv_aload_n hx hb dX0_keepFirst_14 rfl (lv_at hl 0 rfl) ?_
      refine lv_iload_n hx hb dX0_keepFirst_15 rfl (lv_at hl 1 rfl) ?_
      refine va_put (D := (dC, dI)) (ci := 0) (v := .int (iI (i))) (ty := .int) (C := "RequestCutter$ByteRow") (T := TX0) (N := 3) hx hb hts (fun w h => List.mem_cons_of_mem _ (inX0 w h)) tyX0 tyX0_ok nmX0 hown hK hP hD hS 0 rfl rfl 2 (by decide) (hts _ (List.mem_cons_of_mem _ tw_42)) (fun _ h9 => h9) rfl (by decide +kernel) rfl rfl (Nat.le_of_ble_eq_true rfl) dX0_keepFirst_16 (fun H locs hP hD hS => ?_)
      have hP : va_P (dC, dI) vwCl [(h, .inr (0, [.int (iI ((lim : Int))), .ref q, .int (iI (i))]))] H := hP
      have hD : va_D A [(h, .inr (0, [.int (iI ((lim : Int))), .ref q, .int (iI (i))]))] := hD
      refine lv_iconst (v := iI (1)) hx hb dX0_keepFirst_19 rfl ?_
      exact W.zret (v := iI (1)) hx hb hr (by rfl) (fun t ht hW => ⟨⟨iI (1), (i), rfl, ⟨by rw [if_pos (by omega)], by rw [if_pos (by omega)]⟩, by rw [ht]; exact hP, va_K.moved hW.alike hK, hD⟩, hS.F ht⟩) hS.2.2 dX0_keepFirst_20
    · refine lv_iconst (v := iI (0)) hx hb dX0_keepFirst_12 rfl ?_
      exact W.zret (v := iI (0)) hx hb hr (by rfl) (fun t ht hW => ⟨⟨iI (0), ((cnt : Int)), rfl, ⟨by rw [if_neg (by omega)], by rw [if_neg (by omega)]⟩, by rw [ht]; exact hP, va_K.moved hW.alike hK, hD⟩, hS.F ht⟩) hS.2.2 dX0_keepFirst_13
set_option maxHeartbeats 4000000 in
set_option maxRecDepth 100000 in
/-- makeRoom(more) -/
theorem c_X0_makeRoom (l : Launch) (dC : Nat → ClassId) (dI : Nat → Nat → Nat) (cB cI : ClassId) (sz : Nat) (h q lim len cnt : Nat) (f : Nat → Int32) (hc : cnt ≤ len) (hn : len ≤ 65536) (hm : lim ≤ 65536) (hll : len ≤ lim) (hfit : sb_Fit f) (i : Int) (hi : -2147483648 ≤ i ∧ i ≤ 2147483647) (mc ms : Nat) (hroom : (0 ≤ i ∧ i ≤ (lim : Int) - cnt) ∧ (len : Int) < cnt + i → 1 ≤ mc ∧ gL lim len (cnt + i.toNat) ≤ ms) : Met l yX0_makeRoom wX0_makeRoom ({ frames := 2, cells := mc, slots := ms, locals := 70 }) (va_Pc [.ref h, .int (iI (i))] (vx_B (dC, dI) vwCl [(cB, .byte), (cI, .int)] [(h, .inr (0, [.int (iI ((lim : Int))), .ref q, .int (iI ((cnt : Int)))])), (q, .inl (cB, len, .inl (f)))] sz)) (va_Qi (fun (r : Int32) (u : Nat × Nat × (Nat → Int32)) => (r = iI (if (0 ≤ i ∧ i ≤ (lim : Int) - cnt) then 1 else 0)) ∧ (sb_Fit u.2.2 ∧ ∀ j, j < cnt → u.2.2 j = f j) ∧ u.2.1 = (if (0 ≤ i ∧ i ≤ (lim : Int) - cnt) ∧ (len : Int) < cnt + i then gL lim len (cnt + i.toNat) else len) ∧ ((0 ≤ i ∧ i ≤ (lim : Int) - cnt) → (cnt : Int) + i ≤ u.2.1) ∧ u.2.1 ≤ lim) (fun (u : Nat × Nat × (Nat → Int32)) => vx_E (dC, dI) vwCl [(cB, .byte), (cI, .int)] (va_A [(h, .inr (0, [.int (iI ((lim : Int))), .ref q, .int (iI ((cnt : Int)))])), (q, .inl (cB, len, .inl (f)))] sz) [(h, .inr (0, [.int (iI ((lim : Int))), .ref u.1, .int (iI ((cnt : Int)))])), (u.1, .inl (cB, u.2.1, .inl (u.2.2)))]) (va_A [(h, .inr (0, [.int (iI ((lim : Int))), .ref q, .int (iI ((cnt : Int)))])), (q, .inl (cB, len, .inl (f)))] sz)) (mc) (ms) (va_A [(h, .inr (0, [.int (iI ((lim : Int))), .ref q, .int (iI ((cnt : Int)))])), (q, .inl (cB, len, .inl (f)))] sz) := by
  refine Met.ofW (cc := cX0_makeRoom) (maxL := 4) (ret := (some .boolean)) (by decide) rfl ?_
  intro p e s m args below meth c s₁ B hml hv
  obtain ⟨rfl, hsz, hP, hK, hD0⟩ := hv
  have hx := B.exec
  have hb := B.bytes
  have hr := B.returns
  have hts := atoms_spec (ws := wX0_makeRoom) B.pre
  have hown : s.vm.findClass "RequestCutter$ByteRow" = some m.cls := findClass_of_methodNamed B.named
  have hlocks := B.notSynchronized
  subst hsz
  have hD := hD0.self (sz := s.heap.size)
  generalize hAe : va_A [(h, .inr (0, [.int (iI ((lim : Int))), .ref q, .int (iI ((cnt : Int)))])), (q, .inl (cB, len, .inl (f)))] s.heap.size = A at hD ⊢
  have hA : ∀ q : Nat, s.heap.size ≤ q → A q := fun q h => by rw [← hAe]; exact Or.inr h
  have hS : va_S A s.heap s.heap [] := va_S.rf
  have hP : va_P (dC, dI) vwCl [(h, .inr (0, [.int (iI ((lim : Int))), .ref q, .int (iI ((cnt : Int)))])), (q, .inl (cB, len, .inl (f)))] s.heap := hP
  have hl := lv_entry ([.ref h, .int (iI (i))]) (n := 4) (Nat.le_of_ble_eq_true rfl)
  rw [lg_entry_eq]
  generalize (lg_sl ([.ref h, .int (iI (i))]) ++ List.replicate (4 - (lg_sl ([.ref h, .int (iI (i))])).length) Slot.unset).toArray = ls at hl ⊢
  have hl : lv_has ls 4 [(0, .ref h), (1, .int (iI (i)))] := hl
  refine lv_iload_n hx hb dX0_makeRoom_0 rfl (lv_at hl 1 rfl) ?_
  refine lx_if_lt (a := i) (tgt := 17) hx hb dX0_makeRoom_1 (by decide) (by omega) (fun cq1 => ?_) (fun cq1 => ?_)
  · refine lv_iconst (v := iI (0)) hx hb dX0_makeRoom_17 rfl ?_
    refine W.widen (k := mc) (n := ms) (Nat.zero_le _) (Nat.zero_le _) ?_
    exact W.zret (v := iI (0)) hx hb hr (by rfl) (fun t ht hW => ⟨⟨iI (0), (q, len, f), rfl, ⟨by rw [if_neg (by omega)], ⟨hfit, fun _ _ => rfl⟩, by rw [if_neg (by omega)], fun z => by omega, hll⟩, by rw [ht]; exact hP, va_K.moved hW.alike hK, hD⟩, hS.F ht⟩) hS.2.2 dX0_makeRoom_18
  · refine lv_iload_n hx hb dX0_makeRoom_4 rfl (lv_at hl 1 rfl) ?_
    refine lv_aload_n hx hb dX0_makeRoom_5 rfl (lv_at hl 0 rfl) ?_
    refine va_get (D := (dC, dI)) (ci := 0) (v := .int (iI ((lim : Int)))) (C := "RequestCutter$ByteRow") (T := TX0) (N := 3) hx hb hts (fun w h => List.mem_cons_of_mem _ (inX0 w h)) hown hK hP 0 rfl rfl 0 (by decide) (hts _ (List.mem_cons_of_mem _ tw_40)) (fun _ h9 => h9) rfl dX0_makeRoom_6 ?_
    refine lv_aload_n hx hb dX0_makeRoom_9 rfl (lv_at hl 0 rfl) ?_
    refine va_get (D := (dC, dI)) (ci := 0) (v := .int (iI ((cnt : Int)))) (C := "RequestCutter$ByteRow") (T := TX0) (N := 3) hx hb hts (fun w h => List.mem_cons_of_mem _ (inX0 w h)) hown hK hP 0 rfl rfl 2 (by decide) (hts _ (List.mem_cons_of_mem _ tw_42)) (fun _ h9 => h9) rfl dX0_makeRoom_10 ?_
    refine lx_isub (a := (lim : Int)) (b := (cnt : Int)) hx hb dX0_makeRoom_13 ?_
    refine lx_icmp_le (a := i) (b := ((lim : Int)) - ((cnt : Int))) (tgt := 19) hx hb dX0_makeRoom_14 (by decide) (by omega) (by omega) (fun cq2 => ?_) (fun cq2 => ?_)
    · refine lv_aload_n hx hb dX0_makeRoom_19 rfl (lv_at hl 0 rfl) ?_
      refine va_get (D := (dC, dI)) (ci := 0) (v := .int (iI ((cnt : Int)))) (C := "RequestCutter$ByteRow") (T := TX0) (N := 3) hx hb hts (fun w h => List.mem_cons_of_mem _ (inX0 w h)) hown hK hP 0 rfl rfl 2 (by decide) (hts _ (List.mem_cons_of_mem _ tw_42)) (fun _ h9 => h9) rfl dX0_makeRoom_20 ?_
      refine lv_iload_n hx hb dX0_makeRoom_23 rfl (lv_at hl 1 rfl) ?_
      refine lx_iadd (a := (cnt : Int)) (b := i) hx hb dX0_makeRoom_24 ?_
      refine lv_istore_n (lv' := [(2, .int (iI (((cnt : Int)) + i))), (0, .ref h), (1, .int (iI (i)))]) hx hb dX0_makeRoom_25 rfl hl (by decide) rfl (fun ls hl => ?_)
      refine lv_iload_n hx hb dX0_makeRoom_26 rfl (lv_at hl 0 rfl) ?_
      refine lv_aload_n hx hb dX0_makeRoom_27 rfl (lv_at hl 1 rfl) ?_
      refine va_get (D := (dC, dI)) (ci := 0) (v := .ref q) (C := "RequestCutter$ByteRow") (T := TX0) (N := 3) hx hb hts (fun w h => List.mem_cons_of_mem _ (inX0 w h)) hown hK hP 0 rfl rfl 1 (by decide) (hts _ (List.mem_cons_of_mem _ tw_41)) (fun _ h9 => h9) rfl dX0_makeRoom_28 ?_
      refine va_alen (v := iI ((len : Nat) : Int)) hx hb hK hP 1 0 rfl rfl (iI_nat _) dX0_makeRoom_31 ?_
      refine lx_icmp_le (a := ((cnt : Int)) + i) (b := ((len : Nat) : Int)) (tgt := 66) hx hb dX0_makeRoom_32 (by decide) (by omega) (by omega) (fun cq3 => ?_) (fun cq3 => ?_)
      · refine lv_iconst (v := iI (1)) hx hb dX0_makeRoom_66 rfl ?_
        refine W.widen (k := mc) (n := ms) (Nat.zero_le _) (Nat.zero_le _) ?_
        exact W.zret (v := iI (1)) hx hb hr (by rfl) (fun t ht hW => ⟨⟨iI (1), (q, len, f), rfl, ⟨by rw [if_pos (by omega)], ⟨hfit, fun _ _ => rfl⟩, by rw [if_neg (by omega)], fun z => by show (cnt : Int) + i ≤ (len : Int); omega, hll⟩, by rw [ht]; exact hP, va_K.moved hW.alike hK, hD⟩, hS.F ht⟩) hS.2.2 dX0_makeRoom_67
      · obtain ⟨N, hN⟩ : ∃ N : Nat, N = gL lim len (cnt + i.toNat) := ⟨_, rfl⟩
        have hN2 : (N : Int) = min (lim : Int) (max ((cnt : Int) + i) (2 * (len : Int))) := by rw [hN]; unfold gL; omega
        have hR := hroom (by omega)
        rw [← hN] at hR
        refine lv_iload_n hx hb dX0_makeRoom_35 rfl (lv_at hl 0 rfl) ?_
        refine lv_iconst (v := iI (2)) hx hb dX0_makeRoom_36 rfl ?_
        refine lv_aload_n hx hb dX0_makeRoom_37 rfl (lv_at hl 1 rfl) ?_
        refine va_get (D := (dC, dI)) (ci := 0) (v := .ref q) (C := "RequestCutter$ByteRow") (T := TX0) (N := 3) hx hb hts (fun w h => List.mem_cons_of_mem _ (inX0 w h)) hown hK hP 0 rfl rfl 1 (by decide) (hts _ (List.mem_cons_of_mem _ tw_41)) (fun _ h9 => h9) rfl dX0_makeRoom_38 ?_
        refine va_alen (v := iI ((len : Nat) : Int)) hx hb hK hP 1 0 rfl rfl (iI_nat _) dX0_makeRoom_41 ?_
        refine lx_imul (a := 2) (b := ((len : Nat) : Int)) hx hb dX0_makeRoom_42 ?_
        refine lx_max (a := ((cnt : Int)) + i) (b := 2 * (((len : Nat) : Int))) hx hb (by rw [hml]; exact hl.1.symm) hown (hts _ (List.mem_cons_of_mem _ tw_99)) (hts _ (List.mem_cons_of_mem _ tw_100)) (hts _ (List.mem_cons_of_mem _ tw_23)) (hts _ (List.mem_cons_of_mem _ tw_101)) (Nat.le_of_ble_eq_true rfl) (Nat.le_of_ble_eq_true rfl) (Nat.zero_le _) (Nat.zero_le _) (by omega) (by omega) dX0_makeRoom_43 ?_
        refine lv_istore_n (lv' := [(3, .int (iI (max (((cnt : Int)) + i) (2 * (((len : Nat) : Int)))))), (2, .int (iI (((cnt : Int)) + i))), (0, .ref h), (1, .int (iI (i)))]) hx hb dX0_makeRoom_46 rfl hl (by decide) rfl (fun ls hl => ?_)
        refine lv_aload_n hx hb dX0_makeRoom_47 rfl (lv_at hl 2 rfl) ?_
        refine lv_aload_n hx hb dX0_makeRoom_48 rfl (lv_at hl 2 rfl) ?_
        refine va_get (D := (dC, dI)) (ci := 0) (v := .ref q) (C := "RequestCutter$ByteRow") (T := TX0) (N := 3) hx hb hts (fun w h => List.mem_cons_of_mem _ (inX0 w h)) hown hK hP 0 rfl rfl 1 (by decide) (hts _ (List.mem_cons_of_mem _ tw_41)) (fun _ h9 => h9) rfl dX0_makeRoom_49 ?_
        refine lv_aload_n hx hb dX0_makeRoom_52 rfl (lv_at hl 2 rfl) ?_
        refine va_get (D := (dC, dI)) (ci := 0) (v := .int (iI ((lim : Int)))) (C := "RequestCutter$ByteRow") (T := TX0) (N := 3) hx hb hts (fun w h => List.mem_cons_of_mem _ (inX0 w h)) hown hK hP 0 rfl rfl 0 (by decide) (hts _ (List.mem_cons_of_mem _ tw_40)) (fun _ h9 => h9) rfl dX0_makeRoom_53 ?_
        refine lv_iload_n hx hb dX0_makeRoom_56 rfl (lv_at hl 0 rfl) ?_
        refine lx_min (a := (lim : Int)) (b := max (((cnt : Int)) + i) (2 * (((len : Nat) : Int)))) hx hb (by rw [hml]; exact hl.1.symm) hown (hts _ (List.mem_cons_of_mem _ tw_102)) (hts _ (List.mem_cons_of_mem _ tw_103)) (hts _ (List.mem_cons_of_mem _ tw_23)) (hts _ (List.mem_cons_of_mem _ tw_104)) (Nat.le_of_ble_eq_true rfl) (Nat.le_of_ble_eq_true rfl) (Nat.zero_le _) (Nat.zero_le _) (by omega) (by omega) dX0_makeRoom_57 ?_
        refine lx_top (x2 := iI (N : Int)) (congrArg iI (by omega)) ?_
        refine vx_Sr (As := [.ref q, .int (iI ((N : Int)))]) (rest := [.ref h]) (wr := [(h, .inr (0, [.int (iI ((lim : Int))), .ref q, .int (iI ((cnt : Int)))]))]) [1] [0] ⟨hx, hb, hml, hown, hts⟩ (c_J7_copyB l dC dI cB cI _ q len N (f) hfit (by omega) (by omega)) (va_cwS 2 hts (gd_S tw_105 tw_106 tw_24 tw_107) rfl rfl rfl (by decide +kernel) ⟨Nat.le_of_ble_eq_true rfl, Nat.le_of_ble_eq_true rfl⟩) hK hP hD hS hA rfl rfl rfl rfl (by decide) rfl hl.1 rfl (Nat.le_of_ble_eq_true rfl) dX0_makeRoom_60 ⟨by show 0 + 1 ≤ mc; omega, by show 0 + N ≤ ms; omega⟩ (fun u q4 H locs hw hP hD hS => ?_)
        have hP : va_P (dC, dI) vwCl [(h, .inr (0, [.int (iI ((lim : Int))), .ref q, .int (iI ((cnt : Int)))])), (q, .inl (cB, len, .inl (f))), (q4, .inl (cB, N, .inl (va_cpy (f) (fun _ => 0) 0 0 len)))] H := hP.sub [0, 1, 2] rfl
        have hD : va_D A [(h, .inr (0, [.int (iI ((lim : Int))), .ref q, .int (iI ((cnt : Int)))])), (q, .inl (cB, len, .inl (f))), (q4, .inl (cB, N, .inl (va_cpy (f) (fun _ => 0) 0 0 len)))] := hD.sub [0, 1, 2] (by decide) rfl
        refine va_put (D := (dC, dI)) (ci := 0) (v := .ref q4) (ty := .array .byte) (C := "RequestCutter$ByteRow") (T := TX0) (N := 3) hx hb hts (fun w h => List.mem_cons_of_mem _ (inX0 w h)) tyX0 tyX0_ok nmX0 hown hK hP hD hS 0 rfl rfl 1 (by decide) (hts _ (List.mem_cons_of_mem _ tw_41)) (fun _ h9 => h9) rfl (by decide +kernel) rfl rfl (Nat.le_of_ble_eq_true rfl) dX0_makeRoom_63 (fun H locs hP hD hS => ?_)
        have hP : va_P (dC, dI) vwCl [(h, .inr (0, [.int (iI ((lim : Int))), .ref q4, .int (iI ((cnt : Int)))])), (q, .inl (cB, len, .inl (f))), (q4, .inl (cB, N, .inl (va_cpy (f) (fun _ => 0) 0 0 len)))] H := hP
        have hD : va_D A [(h, .inr (0, [.int (iI ((lim : Int))), .ref q4, .int (iI ((cnt : Int)))])), (q, .inl (cB, len, .inl (f))), (q4, .inl (cB, N, .inl (va_cpy (f) (fun _ => 0) 0 0 len)))] := hD
        refine lv_iconst (v := iI (1)) hx hb dX0_makeRoom_66 rfl ?_
        refine W.widen (k := mc) (n := ms) (by omega) (by omega) ?_
        exact W.zret (v := iI (1)) hx hb hr (by rfl) (fun t ht hW => ⟨⟨iI (1), (q4, N, va_cpy f (fun _ => 0) 0 0 len), rfl, ⟨by rw [if_pos (by omega)], ⟨sb_fitC hfit sb_fit0, fun j hj => sb_cpy0 (f := f) (g := fun _ => 0) (n := len) (Nat.lt_of_lt_of_le hj hc)⟩, by rw [if_pos (by omega)]; exact hN, fun z => by show (cnt : Int) + i ≤ (N : Int); omega, by show N ≤ lim; omega⟩, by rw [ht]; exact (hP.sub [0, 2] rfl), va_K.moved hW.alike hK, hD.sub [0, 2] (by decide) rfl⟩, hS.F ht⟩) hS.2.2 dX0_makeRoom_67
    · refine lv_iconst (v := iI (0)) hx hb dX0_makeRoom_17 rfl ?_
      refine W.widen (k := mc) (n := ms) (Nat.zero_le _) (Nat.zero_le _) ?_
      exact W.zret (v := iI (0)) hx hb hr (by rfl) (fun t ht hW => ⟨⟨iI (0), (q, len, f), rfl, ⟨by rw [if_neg (by omega)], ⟨hfit, fun _ _ => rfl⟩, by rw [if_neg (by omega)], fun z => by omega, hll⟩, by rw [ht]; exact hP, va_K.moved hW.alike hK, hD⟩, hS.F ht⟩) hS.2.2 dX0_makeRoom_18
set_option maxHeartbeats 4000000 in
set_option maxRecDepth 100000 in
/-- addNumber(x): its four bytes, the highest first -/
theorem c_X0_addNumber (l : Launch) (dC : Nat → ClassId) (dI : Nat → Nat → Nat) (cB cI : ClassId) (sz : Nat) (h q lim len cnt : Nat) (f : Nat → Int32) (hc : cnt + 4 ≤ len) (hn : len ≤ 65536) (hm : lim ≤ 65536) (hfit : sb_Fit f) (x : Int32) : Met l yX0_addNumber wX0_addNumber ({ frames := 0, cells := 0, slots := 0, locals := 0 }) (va_Pc [.ref h, .int (x)] (vx_B (dC, dI) vwCl [(cB, .byte), (cI, .int)] [(h, .inr (0, [.int (iI ((lim : Int))), .ref q, .int (iI ((cnt : Int)))])), (q, .inl (cB, len, .inl (f)))] sz)) (va_Qv (fun (u : Nat → Int32) => sb_Fit u ∧ (∀ j, j < cnt → u j = f j) ∧ u cnt = nb x 24 ∧ u (cnt + 1) = nb x 16 ∧ u (cnt + 2) = nb x 8 ∧ u (cnt + 3) = nb x 0) (fun (u : Nat → Int32) => vx_E (dC, dI) vwCl [(cB, .byte), (cI, .int)] (va_A [(h, .inr (0, [.int (iI ((lim : Int))), .ref q, .int (iI ((cnt : Int)))])), (q, .inl (cB, len, .inl (f)))] sz) [(h, .inr (0, [.int (iI ((lim : Int))), .ref q, .int (iI (((cnt + 4 : Nat) : Int)))])), (q, .inl (cB, len, .inl (u)))]) (va_A [(h, .inr (0, [.int (iI ((lim : Int))), .ref q, .int (iI ((cnt : Int)))])), (q, .inl (cB, len, .inl (f)))] sz)) (0) (0) (va_A [(h, .inr (0, [.int (iI ((lim : Int))), .ref q, .int (iI ((cnt : Int)))])), (q, .inl (cB, len, .inl (f)))] sz) := by
  refine Met.ofW (cc := cX0_addNumber) (maxL := 3) (ret := none) (by decide) rfl ?_
  intro p e s m args below meth c s₁ B hml hv
  obtain ⟨rfl, hsz, hP, hK, hD0⟩ := hv
  have hx := B.exec
  have hb := B.bytes
  have hr := B.returns
  have hts := atoms_spec (ws := wX0_addNumber) B.pre
  have hown : s.vm.findClass "RequestCutter$ByteRow" = some m.cls := findClass_of_methodNamed B.named
  have hlocks := B.notSynchronized
  subst hsz
  have hD := hD0.self (sz := s.heap.size)
  generalize hAe : va_A [(h, .inr (0, [.int (iI ((lim : Int))), .ref q, .int (iI ((cnt : Int)))])), (q, .inl (cB, len, .inl (f)))] s.heap.size = A at hD ⊢
  have hA : ∀ q : Nat, s.heap.size ≤ q → A q := fun q h => by rw [← hAe]; exact Or.inr h
  have hS : va_S A s.heap s.heap [] := va_S.rf
  have hP : va_P (dC, dI) vwCl [(h, .inr (0, [.int (iI ((lim : Int))), .ref q, .int (iI ((cnt : Int)))])), (q, .inl (cB, len, .inl (f)))] s.heap := hP
  have hl := lv_entry ([.ref h, .int (x)]) (n := 3) (Nat.le_of_ble_eq_true rfl)
  rw [lg_entry_eq]
  generalize (lg_sl ([.ref h, .int (x)]) ++ List.replicate (3 - (lg_sl ([.ref h, .int (x)])).length) Slot.unset).toArray = ls at hl ⊢
  have hl : lv_has ls 3 [(0, .ref h), (1, .int (x))] := hl
  refine lv_bipush (v := iI (24)) hx hb dX0_addNumber_0 (by decide) ?_
  refine lv_istore_n (lv' := [(2, .int (iI (24))), (0, .ref h), (1, .int (x))]) hx hb dX0_addNumber_2 rfl hl (by decide) rfl (fun ls hl => ?_)
  refine lv_iload_n hx hb dX0_addNumber_3 rfl (lv_at hl 0 rfl) ?_
  refine lx_if_lt (a := 24) (tgt := 48) hx hb dX0_addNumber_4 (by decide) (by omega) (fun cq1 => ?_) (fun cq1 => ?_)
  · exact absurd cq1 (by omega)
  · refine lv_aload_n hx hb dX0_addNumber_7 rfl (lv_at hl 1 rfl) ?_
    refine va_get (D := (dC, dI)) (ci := 0) (v := .int (iI ((cnt : Int)))) (C := "RequestCutter$ByteRow") (T := TX0) (N := 3) hx hb hts (fun w h => List.mem_cons_of_mem _ (inX0 w h)) hown hK hP 0 rfl rfl 2 (by decide) (hts _ (List.mem_cons_of_mem _ tw_42)) (fun _ h9 => h9) rfl dX0_addNumber_8 ?_
    refine lv_aload_n hx hb dX0_addNumber_11 rfl (lv_at hl 1 rfl) ?_
    refine va_get (D := (dC, dI)) (ci := 0) (v := .ref q) (C := "RequestCutter$ByteRow") (T := TX0) (N := 3) hx hb hts (fun w h => List.mem_cons_of_mem _ (inX0 w h)) hown hK hP 0 rfl rfl 1 (by decide) (hts _ (List.mem_cons_of_mem _ tw_41)) (fun _ h9 => h9) rfl dX0_addNumber_12 ?_
    refine va_alen (v := iI ((len : Nat) : Int)) hx hb hK hP 1 0 rfl rfl (iI_nat _) dX0_addNumber_15 ?_
    refine lx_icmp_ge (a := (cnt : Int)) (b := ((len : Nat) : Int)) (tgt := 42) hx hb dX0_addNumber_16 (by decide) (by omega) (by omega) (fun cq2 => ?_) (fun cq2 => ?_)
    · exact absurd cq2 (by omega)
    · refine lv_aload_n hx hb dX0_addNumber_19 rfl (lv_at hl 1 rfl) ?_
      refine va_get (D := (dC, dI)) (ci := 0) (v := .ref q) (C := "RequestCutter$ByteRow") (T := TX0) (N := 3) hx hb hts (fun w h => List.mem_cons_of_mem _ (inX0 w h)) hown hK hP 0 rfl rfl 1 (by decide) (hts _ (List.mem_cons_of_mem _ tw_41)) (fun _ h9 => h9) rfl dX0_addNumber_20 ?_
      refine lv_aload_n hx hb dX0_addNumber_23 rfl (lv_at hl 1 rfl) ?_
      refine va_get (D := (dC, dI)) (ci := 0) (v := .int (iI ((cnt : Int)))) (C := "RequestCutter$ByteRow") (T := TX0) (N := 3) hx hb hts (fun w h => List.mem_cons_of_mem _ (inX0 w h)) hown hK hP 0 rfl rfl 2 (by decide) (hts _ (List.mem_cons_of_mem _ tw_42)) (fun _ h9 => h9) rfl dX0_addNumber_24 ?_
      refine lv_iload_n hx hb dX0_addNumber_27 rfl (lv_at hl 2 rfl) ?_
      refine lv_iload_n hx hb dX0_addNumber_28 rfl (lv_at hl 0 rfl) ?_
      refine lv_iushr (x := x) (y := iI (24)) (v := (((x).toUInt32 >>> ((iI (24)).toUInt32 &&& Int32.toUInt32 31)).toInt32)) hx hb dX0_addNumber_29 rfl ?_
      refine lv_i2b (v := nb (x) (24)) hx hb dX0_addNumber_30 rfl ?_
      refine lx_bast (x := nb (x) (24)) (v := nb (x) (24)) (i := (cnt : Int)) hx hb hK hP hD hS 1 0 rfl rfl (cnt) (by omega) (by omega) (nb_nar _ _) dX0_addNumber_31 (fun H locs hP hD hS => ?_)
      have hP : va_P (dC, dI) vwCl [(h, .inr (0, [.int (iI ((lim : Int))), .ref q, .int (iI ((cnt : Int)))])), (q, .inl (cB, len, .inl (upd (f) (cnt) (nb (x) (24)))))] H := hP
      have hD : va_D A [(h, .inr (0, [.int (iI ((lim : Int))), .ref q, .int (iI ((cnt : Int)))])), (q, .inl (cB, len, .inl (upd (f) (cnt) (nb (x) (24)))))] := hD
      refine lv_aload_n hx hb dX0_addNumber_32 rfl (lv_at hl 1 rfl) ?_
      refine lv_dup hx hb dX0_addNumber_33 rfl ?_
      refine va_get (D := (dC, dI)) (ci := 0) (v := .int (iI ((cnt : Int)))) (C := "RequestCutter$ByteRow") (T := TX0) (N := 3) hx hb hts (fun w h => List.mem_cons_of_mem _ (inX0 w h)) hown hK hP 0 rfl rfl 2 (by decide) (hts _ (List.mem_cons_of_mem _ tw_42)) (fun _ h9 => h9) rfl dX0_addNumber_34 ?_
      refine lv_iconst (v := iI (1)) hx hb dX0_addNumber_37 rfl ?_
      refine lx_iadd (a := (cnt : Int)) (b := 1) hx hb dX0_addNumber_38 ?_
      refine lx_top (x2 := iI ((cnt + 1 : Nat) : Int)) (congrArg iI (by omega)) ?_
      refine va_put (D := (dC, dI)) (ci := 0) (v := .int (iI (((cnt + 1 : Nat) : Int)))) (ty := .int) (C := "RequestCutter$ByteRow") (T := TX0) (N := 3) hx hb hts (fun w h => List.mem_cons_of_mem _ (inX0 w h)) tyX0 tyX0_ok nmX0 hown hK hP hD hS 0 rfl rfl 2 (by decide) (hts _ (List.mem_cons_of_mem _ tw_42)) (fun _ h9 => h9) rfl (by decide +kernel) rfl rfl (Nat.le_of_ble_eq_true rfl) dX0_addNumber_39 (fun H locs hP hD hS => ?_)
      have hP : va_P (dC, dI) vwCl [(h, .inr (0, [.int (iI ((lim : Int))), .ref q, .int (iI (((cnt + 1 : Nat) : Int)))])), (q, .inl (cB, len, .inl (upd (f) (cnt) (nb (x) (24)))))] H := hP
      have hD : va_D A [(h, .inr (0, [.int (iI ((lim : Int))), .ref q, .int (iI (((cnt + 1 : Nat) : Int)))])), (q, .inl (cB, len, .inl (upd (f) (cnt) (nb (x) (24)))))] := hD
      refine lv_iinc (v := iI (24 + (-8))) (lv' := [(2, .int (iI (24 + (-8)))), (0, .ref h), (1, .int (x))]) hx hb dX0_addNumber_42 hl (k := 0) rfl (iI_add _ _) (by decide) rfl (fun ls hl => ?_)
      refine lv_goto (tgt := 3) hx hb dX0_addNumber_45 (by decide) ?_
      refine lv_iload_n hx hb dX0_addNumber_3 rfl (lv_at hl 0 rfl) ?_
      refine lx_if_lt (a := 24 + (-8)) (tgt := 48) hx hb dX0_addNumber_4 (by decide) (by omega) (fun cq3 => ?_) (fun cq3 => ?_)
      · exact absurd cq3 (by omega)
      · refine lv_aload_n hx hb dX0_addNumber_7 rfl (lv_at hl 1 rfl) ?_
        refine va_get (D := (dC, dI)) (ci := 0) (v := .int (iI (((cnt + 1 : Nat) : Int)))) (C := "RequestCutter$ByteRow") (T := TX0) (N := 3) hx hb hts (fun w h => List.mem_cons_of_mem _ (inX0 w h)) hown hK hP 0 rfl rfl 2 (by decide) (hts _ (List.mem_cons_of_mem _ tw_42)) (fun _ h9 => h9) rfl dX0_addNumber_8 ?_
        refine lv_aload_n hx hb dX0_addNumber_11 rfl (lv_at hl 1 rfl) ?_
        refine va_get (D := (dC, dI)) (ci := 0) (v := .ref q) (C := "RequestCutter$ByteRow") (T := TX0) (N := 3) hx hb hts (fun w h => List.mem_cons_of_mem _ (inX0 w h)) hown hK hP 0 rfl rfl 1 (by decide) (hts _ (List.mem_cons_of_mem _ tw_41)) (fun _ h9 => h9) rfl dX0_addNumber_12 ?_
        refine va_alen (v := iI ((len : Nat) : Int)) hx hb hK hP 1 0 rfl rfl (iI_nat _) dX0_addNumber_15 ?_
        refine lx_icmp_ge (a := ((cnt + 1 : Nat) : Int)) (b := ((len : Nat) : Int)) (tgt := 42) hx hb dX0_addNumber_16 (by decide) (by omega) (by omega) (fun cq4 => ?_) (fun cq4 => ?_)
        · exact absurd cq4 (by omega)
        · refine lv_aload_n hx hb dX0_addNumber_19 rfl (lv_at hl 1 rfl) ?_
          refine va_get (D := (dC, dI)) (ci := 0) (v := .ref q) (C := "RequestCutter$ByteRow") (T := TX0) (N := 3) hx hb hts (fun w h => List.mem_cons_of_mem _ (inX0 w h)) hown hK hP 0 rfl rfl 1 (by decide) (hts _ (List.mem_cons_of_mem _ tw_41)) (fun _ h9 => h9) rfl dX0_addNumber_20 ?_
          refine lv_aload_n hx hb dX0_addNumber_23 rfl (lv_at hl 1 rfl) ?_
          refine va_get (D := (dC, dI)) (ci := 0) (v := .int (iI (((cnt + 1 : Nat) : Int)))) (C := "RequestCutter$ByteRow") (T := TX0) (N := 3) hx hb hts (fun w h => List.mem_cons_of_mem _ (inX0 w h)) hown hK hP 0 rfl rfl 2 (by decide) (hts _ (List.mem_cons_of_mem _ tw_42)) (fun _ h9 => h9) rfl dX0_addNumber_24 ?_
          refine lv_iload_n hx hb dX0_addNumber_27 rfl (lv_at hl 2 rfl) ?_
          refine lv_iload_n hx hb dX0_addNumber_28 rfl (lv_at hl 0 rfl) ?_
          refine lv_iushr (x := x) (y := iI (24 + (-8))) (v := (((x).toUInt32 >>> ((iI (24 + (-8))).toUInt32 &&& Int32.toUInt32 31)).toInt32)) hx hb dX0_addNumber_29 rfl ?_
          refine lv_i2b (v := nb (x) (24 + (-8))) hx hb dX0_addNumber_30 rfl ?_
          refine lx_bast (x := nb (x) (24 + (-8))) (v := nb (x) (24 + (-8))) (i := ((cnt + 1 : Nat) : Int)) hx hb hK hP hD hS 1 0 rfl rfl (cnt + 1) (by omega) (by omega) (nb_nar _ _) dX0_addNumber_31 (fun H locs hP hD hS => ?_)
          have hP : va_P (dC, dI) vwCl [(h, .inr (0, [.int (iI ((lim : Int))), .ref q, .int (iI (((cnt + 1 : Nat) : Int)))])), (q, .inl (cB, len, .inl (upd (upd (f) (cnt) (nb (x) (24))) (cnt + 1) (nb (x) (24 + (-8))))))] H := hP
          have hD : va_D A [(h, .inr (0, [.int (iI ((lim : Int))), .ref q, .int (iI (((cnt + 1 : Nat) : Int)))])), (q, .inl (cB, len, .inl (upd (upd (f) (cnt) (nb (x) (24))) (cnt + 1) (nb (x) (24 + (-8))))))] := hD
          refine lv_aload_n hx hb dX0_addNumber_32 rfl (lv_at hl 1 rfl) ?_
          refine lv_dup hx hb dX0_addNumber_33 rfl ?_
          refine va_get (D := (dC, dI)) (ci := 0) (v := .int (iI (((cnt + 1 : Nat) : Int)))) (C := "RequestCutter$ByteRow") (T := TX0) (N := 3) hx hb hts (fun w h => List.mem_cons_of_mem _ (inX0 w h)) hown hK hP 0 rfl rfl 2 (by decide) (hts _ (List.mem_cons_of_mem _ tw_42)) (fun _ h9 => h9) rfl dX0_addNumber_34 ?_
          refine lv_iconst (v := iI (1)) hx hb dX0_addNumber_37 rfl ?_
          refine lx_iadd (a := ((cnt + 1 : Nat) : Int)) (b := 1) hx hb dX0_addNumber_38 ?_
          refine lx_top (x2 := iI ((cnt + 2 : Nat) : Int)) (congrArg iI (by omega)) ?_
          refine va_put (D := (dC, dI)) (ci := 0) (v := .int (iI (((cnt + 2 : Nat) : Int)))) (ty := .int) (C := "RequestCutter$ByteRow") (T := TX0) (N := 3) hx hb hts (fun w h => List.mem_cons_of_mem _ (inX0 w h)) tyX0 tyX0_ok nmX0 hown hK hP hD hS 0 rfl rfl 2 (by decide) (hts _ (List.mem_cons_of_mem _ tw_42)) (fun _ h9 => h9) rfl (by decide +kernel) rfl rfl (Nat.le_of_ble_eq_true rfl) dX0_addNumber_39 (fun H locs hP hD hS => ?_)
          have hP : va_P (dC, dI) vwCl [(h, .inr (0, [.int (iI ((lim : Int))), .ref q, .int (iI (((cnt + 2 : Nat) : Int)))])), (q, .inl (cB, len, .inl (upd (upd (f) (cnt) (nb (x) (24))) (cnt + 1) (nb (x) (24 + (-8))))))] H := hP
          have hD : va_D A [(h, .inr (0, [.int (iI ((lim : Int))), .ref q, .int (iI (((cnt + 2 : Nat) : Int)))])), (q, .inl (cB, len, .inl (upd (upd (f) (cnt) (nb (x) (24))) (cnt + 1) (nb (x) (24 + (-8))))))] := hD
          refine lv_iinc (v := iI (24 + (-8) + (-8))) (lv' := [(2, .int (iI (24 + (-8) + (-8)))), (0, .ref h), (1, .int (x))]) hx hb dX0_addNumber_42 hl (k := 0) rfl (iI_add _ _) (by decide) rfl (fun ls hl => ?_)
          refine lv_goto (tgt := 3) hx hb dX0_addNumber_45 (by decide) ?_
          refine lv_iload_n hx hb dX0_addNumber_3 rfl (lv_at hl 0 rfl) ?_
          refine lx_if_lt (a := 24 + (-8) + (-8)) (tgt := 48) hx hb dX0_addNumber_4 (by decide) (by omega) (fun cq5 => ?_) (fun cq5 => ?_)
          · exact absurd cq5 (by omega)
          · refine lv_aload_n hx hb dX0_addNumber_7 rfl (lv_at hl 1 rfl) ?_
            refine va_get (D := (dC, dI)) (ci := 0) (v := .int (iI (((cnt + 2 : Nat) : Int)))) (C := "RequestCutter$ByteRow") (T := TX0) (N := 3) hx hb hts (fun w h => List.mem_cons_of_mem _ (inX0 w h)) hown hK hP 0 rfl rfl 2 (by decide) (hts _ (List.mem_cons_of_mem _ tw_42)) (fun _ h9 => h9) rfl dX0_addNumber_8 ?_
            refine lv_aload_n hx hb dX0_addNumber_11 rfl (lv_at hl 1 rfl) ?_
            refine va_get (D := (dC, dI)) (ci := 0) (v := .ref q) (C := "RequestCutter$ByteRow") (T := TX0) (N := 3) hx hb hts (fun w h => List.mem_cons_of_mem _ (inX0 w h)) hown hK hP 0 rfl rfl 1 (by decide) (hts _ (List.mem_cons_of_mem _ tw_41)) (fun _ h9 => h9) rfl dX0_addNumber_12 ?_
            refine va_alen (v := iI ((len : Nat) : Int)) hx hb hK hP 1 0 rfl rfl (iI_nat _) dX0_addNumber_15 ?_
            refine lx_icmp_ge (a := ((cnt + 2 : Nat) : Int)) (b := ((len : Nat) : Int)) (tgt := 42) hx hb dX0_addNumber_16 (by decide) (by omega) (by omega) (fun cq6 => ?_) (fun cq6 => ?_)
            · exact absurd cq6 (by omega)
            · refine lv_aload_n hx hb dX0_addNumber_19 rfl (lv_at hl 1 rfl) ?_
              refine va_get (D := (dC, dI)) (ci := 0) (v := .ref q) (C := "RequestCutter$ByteRow") (T := TX0) (N := 3) hx hb hts (fun w h => List.mem_cons_of_mem _ (inX0 w h)) hown hK hP 0 rfl rfl 1 (by decide) (hts _ (List.mem_cons_of_mem _ tw_41)) (fun _ h9 => h9) rfl dX0_addNumber_20 ?_
              refine lv_aload_n hx hb dX0_addNumber_23 rfl (lv_at hl 1 rfl) ?_
              refine va_get (D := (dC, dI)) (ci := 0) (v := .int (iI (((cnt + 2 : Nat) : Int)))) (C := "RequestCutter$ByteRow") (T := TX0) (N := 3) hx hb hts (fun w h => List.mem_cons_of_mem _ (inX0 w h)) hown hK hP 0 rfl rfl 2 (by decide) (hts _ (List.mem_cons_of_mem _ tw_42)) (fun _ h9 => h9) rfl dX0_addNumber_24 ?_
              refine lv_iload_n hx hb dX0_addNumber_27 rfl (lv_at hl 2 rfl) ?_
              refine lv_iload_n hx hb dX0_addNumber_28 rfl (lv_at hl 0 rfl) ?_
              refine lv_iushr (x := x) (y := iI (24 + (-8) + (-8))) (v := (((x).toUInt32 >>> ((iI (24 + (-8) + (-8))).toUInt32 &&& Int32.toUInt32 31)).toInt32)) hx hb dX0_addNumber_29 rfl ?_
              refine lv_i2b (v := nb (x) (24 + (-8) + (-8))) hx hb dX0_addNumber_30 rfl ?_
              refine lx_bast (x := nb (x) (24 + (-8) + (-8))) (v := nb (x) (24 + (-8) + (-8))) (i := ((cnt + 2 : Nat) : Int)) hx hb hK hP hD hS 1 0 rfl rfl (cnt + 2) (by omega) (by omega) (nb_nar _ _) dX0_addNumber_31 (fun H locs hP hD hS => ?_)
              have hP : va_P (dC, dI) vwCl [(h, .inr (0, [.int (iI ((lim : Int))), .ref q, .int (iI (((cnt + 2 : Nat) : Int)))])), (q, .inl (cB, len, .inl (upd (upd (upd (f) (cnt) (nb (x) (24))) (cnt + 1) (nb (x) (24 + (-8)))) (cnt + 2) (nb (x) (24 + (-8) + (-8))))))] H := hP
              have hD : va_D A [(h, .inr (0, [.int (iI ((lim : Int))), .ref q, .int (iI (((cnt + 2 : Nat) : Int)))])), (q, .inl (cB, len, .inl (upd (upd (upd (f) (cnt) (nb (x) (24))) (cnt + 1) (nb (x) (24 + (-8)))) (cnt + 2) (nb (x) (24 + (-8) + (-8))))))] := hD
              refine lv_aload_n hx hb dX0_addNumber_32 rfl (lv_at hl 1 rfl) ?_
              refine lv_dup hx hb dX0_addNumber_33 rfl ?_
              refine va_get (D := (dC, dI)) (ci := 0) (v := .int (iI (((cnt + 2 : Nat) : Int)))) (C := "RequestCutter$ByteRow") (T := TX0) (N := 3) hx hb hts (fun w h => List.mem_cons_of_mem _ (inX0 w h)) hown hK hP 0 rfl rfl 2 (by decide) (hts _ (List.mem_cons_of_mem _ tw_42)) (fun _ h9 => h9) rfl dX0_addNumber_34 ?_
              refine lv_iconst (v := iI (1)) hx hb dX0_addNumber_37 rfl ?_
              refine lx_iadd (a := ((cnt + 2 : Nat) : Int)) (b := 1) hx hb dX0_addNumber_38 ?_
              refine lx_top (x2 := iI ((cnt + 3 : Nat) : Int)) (congrArg iI (by omega)) ?_
              refine va_put (D := (dC, dI)) (ci := 0) (v := .int (iI (((cnt + 3 : Nat) : Int)))) (ty := .int) (C := "RequestCutter$ByteRow") (T := TX0) (N := 3) hx hb hts (fun w h => List.mem_cons_of_mem _ (inX0 w h)) tyX0 tyX0_ok nmX0 hown hK hP hD hS 0 rfl rfl 2 (by decide) (hts _ (List.mem_cons_of_mem _ tw_42)) (fun _ h9 => h9) rfl (by decide +kernel) rfl rfl (Nat.le_of_ble_eq_true rfl) dX0_addNumber_39 (fun H locs hP hD hS => ?_)
              have hP : va_P (dC, dI) vwCl [(h, .inr (0, [.int (iI ((lim : Int))), .ref q, .int (iI (((cnt + 3 : Nat) : Int)))])), (q, .inl (cB, len, .inl (upd (upd (upd (f) (cnt) (nb (x) (24))) (cnt + 1) (nb (x) (24 + (-8)))) (cnt + 2) (nb (x) (24 + (-8) + (-8))))))] H := hP
              have hD : va_D A [(h, .inr (0, [.int (iI ((lim : Int))), .ref q, .int (iI (((cnt + 3 : Nat) : Int)))])), (q, .inl (cB, len, .inl (upd (upd (upd (f) (cnt) (nb (x) (24))) (cnt + 1) (nb (x) (24 + (-8)))) (cnt + 2) (nb (x) (24 + (-8) + (-8))))))] := hD
              refine lv_iinc (v := iI (24 + (-8) + (-8) + (-8))) (lv' := [(2, .int (iI (24 + (-8) + (-8) + (-8)))), (0, .ref h), (1, .int (x))]) hx hb dX0_addNumber_42 hl (k := 0) rfl (iI_add _ _) (by decide) rfl (fun ls hl => ?_)
              refine lv_goto (tgt := 3) hx hb dX0_addNumber_45 (by decide) ?_
              refine lv_iload_n hx hb dX0_addNumber_3 rfl (lv_at hl 0 rfl) ?_
              refine lx_if_lt (a := 24 + (-8) + (-8) + (-8)) (tgt := 48) hx hb dX0_addNumber_4 (by decide) (by omega) (fun cq7 => ?_) (fun cq7 => ?_)
              · exact absurd cq7 (by omega)
              · refine lv_aload_n hx hb dX0_addNumber_7 rfl (lv_at hl 1 rfl) ?_
                refine va_get (D := (dC, dI)) (ci := 0) (v := .int (iI (((cnt + 3 : Nat) : Int)))) (C := "RequestCutter$ByteRow") (T := TX0) (N := 3) hx hb hts (fun w h => List.mem_cons_of_mem _ (inX0 w h)) hown hK hP 0 rfl rfl 2 (by decide) (hts _ (List.mem_cons_of_mem _ tw_42)) (fun _ h9 => h9) rfl dX0_addNumber_8 ?_
                refine lv_aload_n hx hb dX0_addNumber_11 rfl (lv_at hl 1 rfl) ?_
                refine va_get (D := (dC, dI)) (ci := 0) (v := .ref q) (C := "RequestCutter$ByteRow") (T := TX0) (N := 3) hx hb hts (fun w h => List.mem_cons_of_mem _ (inX0 w h)) hown hK hP 0 rfl rfl 1 (by decide) (hts _ (List.mem_cons_of_mem _ tw_41)) (fun _ h9 => h9) rfl dX0_addNumber_12 ?_
                refine va_alen (v := iI ((len : Nat) : Int)) hx hb hK hP 1 0 rfl rfl (iI_nat _) dX0_addNumber_15 ?_
                refine lx_icmp_ge (a := ((cnt + 3 : Nat) : Int)) (b := ((len : Nat) : Int)) (tgt := 42) hx hb dX0_addNumber_16 (by decide) (by omega) (by omega) (fun cq8 => ?_) (fun cq8 => ?_)
                · exact absurd cq8 (by omega)
                · refine lv_aload_n hx hb dX0_addNumber_19 rfl (lv_at hl 1 rfl) ?_
                  refine va_get (D := (dC, dI)) (ci := 0) (v := .ref q) (C := "RequestCutter$ByteRow") (T := TX0) (N := 3) hx hb hts (fun w h => List.mem_cons_of_mem _ (inX0 w h)) hown hK hP 0 rfl rfl 1 (by decide) (hts _ (List.mem_cons_of_mem _ tw_41)) (fun _ h9 => h9) rfl dX0_addNumber_20 ?_
                  refine lv_aload_n hx hb dX0_addNumber_23 rfl (lv_at hl 1 rfl) ?_
                  refine va_get (D := (dC, dI)) (ci := 0) (v := .int (iI (((cnt + 3 : Nat) : Int)))) (C := "RequestCutter$ByteRow") (T := TX0) (N := 3) hx hb hts (fun w h => List.mem_cons_of_mem _ (inX0 w h)) hown hK hP 0 rfl rfl 2 (by decide) (hts _ (List.mem_cons_of_mem _ tw_42)) (fun _ h9 => h9) rfl dX0_addNumber_24 ?_
                  refine lv_iload_n hx hb dX0_addNumber_27 rfl (lv_at hl 2 rfl) ?_
                  refine lv_iload_n hx hb dX0_addNumber_28 rfl (lv_at hl 0 rfl) ?_
                  refine lv_iushr (x := x) (y := iI (24 + (-8) + (-8) + (-8))) (v := (((x).toUInt32 >>> ((iI (24 + (-8) + (-8) + (-8))).toUInt32 &&& Int32.toUInt32 31)).toInt32)) hx hb dX0_addNumber_29 rfl ?_
                  refine lv_i2b (v := nb (x) (24 + (-8) + (-8) + (-8))) hx hb dX0_addNumber_30 rfl ?_
                  refine lx_bast (x := nb (x) (24 + (-8) + (-8) + (-8))) (v := nb (x) (24 + (-8) + (-8) + (-8))) (i := ((cnt + 3 : Nat) : Int)) hx hb hK hP hD hS 1 0 rfl rfl (cnt + 3) (by omega) (by omega) (nb_nar _ _) dX0_addNumber_31 (fun H locs hP hD hS => ?_)
                  have hP : va_P (dC, dI) vwCl [(h, .inr (0, [.int (iI ((lim : Int))), .ref q, .int (iI (((cnt + 3 : Nat) : Int)))])), (q, .inl (cB, len, .inl (upd (upd (upd (upd (f) (cnt) (nb (x) (24))) (cnt + 1) (nb (x) (24 + (-8)))) (cnt + 2) (nb (x) (24 + (-8) + (-8)))) (cnt + 3) (nb (x) (24 + (-8) + (-8) + (-8))))))] H := hP
                  have hD : va_D A [(h, .inr (0, [.int (iI ((lim : Int))), .ref q, .int (iI (((cnt + 3 : Nat) : Int)))])), (q, .inl (cB, len, .inl (upd (upd (upd (upd (f) (cnt) (nb (x) (24))) (cnt + 1) (nb (x) (24 + (-8)))) (cnt + 2) (nb (x) (24 + (-8) + (-8)))) (cnt + 3) (nb (x) (24 + (-8) + (-8) + (-8))))))] := hD
                  refine lv_aload_n hx hb dX0_addNumber_32 rfl (lv_at hl 1 rfl) ?_
                  refine lv_dup hx hb dX0_addNumber_33 rfl ?_
                  refine va_get (D := (dC, dI)) (ci := 0) (v := .int (iI (((cnt + 3 : Nat) : Int)))) (C := "RequestCutter$ByteRow") (T := TX0) (N := 3) hx hb hts (fun w h => List.mem_cons_of_mem _ (inX0 w h)) hown hK hP 0 rfl rfl 2 (by decide) (hts _ (List.mem_cons_of_mem _ tw_42)) (fun _ h9 => h9) rfl dX0_addNumber_34 ?_
                  refine lv_iconst (v := iI (1)) hx hb dX0_addNumber_37 rfl ?_
                  refine lx_iadd (a := ((cnt + 3 : Nat) : Int)) (b := 1) hx hb dX0_addNumber_38 ?_
                  refine lx_top (x2 := iI ((cnt + 4 : Nat) : Int)) (congrArg iI (by omega)) ?_
                  refine va_put (D := (dC, dI)) (ci := 0) (v := .int (iI (((cnt + 4 : Nat) : Int)))) (ty := .int) (C := "RequestCutter$ByteRow") (T := TX0) (N := 3) hx hb hts (fun w h => List.mem_cons_of_mem _ (inX0 w h)) tyX0 tyX0_ok nmX0 hown hK hP hD hS 0 rfl rfl 2 (by decide) (hts _ (List.mem_cons_of_mem _ tw_42)) (fun _ h9 => h9) rfl (by decide +kernel) rfl rfl (Nat.le_of_ble_eq_true rfl) dX0_addNumber_39 (fun H locs hP hD hS => ?_)
                  have hP : va_P (dC, dI) vwCl [(h, .inr (0, [.int (iI ((lim : Int))), .ref q, .int (iI (((cnt + 4 : Nat) : Int)))])), (q, .inl (cB, len, .inl (upd (upd (upd (upd (f) (cnt) (nb (x) (24))) (cnt + 1) (nb (x) (24 + (-8)))) (cnt + 2) (nb (x) (24 + (-8) + (-8)))) (cnt + 3) (nb (x) (24 + (-8) + (-8) + (-8))))))] H := hP
                  have hD : va_D A [(h, .inr (0, [.int (iI ((lim : Int))), .ref q, .int (iI (((cnt + 4 : Nat) : Int)))])), (q, .inl (cB, len, .inl (upd (upd (upd (upd (f) (cnt) (nb (x) (24))) (cnt + 1) (nb (x) (24 + (-8)))) (cnt + 2) (nb (x) (24 + (-8) + (-8)))) (cnt + 3) (nb (x) (24 + (-8) + (-8) + (-8))))))] := hD
                  refine lv_iinc (v := iI (24 + (-8) + (-8) + (-8) + (-8))) (lv' := [(2, .int (iI (24 + (-8) + (-8) + (-8) + (-8)))), (0, .ref h), (1, .int (x))]) hx hb dX0_addNumber_42 hl (k := 0) rfl (iI_add _ _) (by decide) rfl (fun ls hl => ?_)
                  refine lv_goto (tgt := 3) hx hb dX0_addNumber_45 (by decide) ?_
                  refine lv_iload_n hx hb dX0_addNumber_3 rfl (lv_at hl 0 rfl) ?_
                  refine lx_if_lt (a := 24 + (-8) + (-8) + (-8) + (-8)) (tgt := 48) hx hb dX0_addNumber_4 (by decide) (by omega) (fun cq9 => ?_) (fun cq9 => ?_)
                  · exact W.vret hx hb hr (fun t ht hW => ⟨⟨(upd (upd (upd (upd (f) (cnt) (nb (x) (24))) (cnt + 1) (nb (x) (24 + (-8)))) (cnt + 2) (nb (x) (24 + (-8) + (-8)))) (cnt + 3) (nb (x) (24 + (-8) + (-8) + (-8)))), rfl, ⟨sb_fitU (sb_fitU (sb_fitU (sb_fitU hfit (nb_fit _ _)) (nb_fit _ _)) (nb_fit _ _)) (nb_fit _ _), fun j hj => by simp only [upd]; rw [if_neg (by omega), if_neg (by omega), if_neg (by omega), if_neg (by omega)], by simp only [upd]; rw [if_neg (by omega), if_neg (by omega), if_neg (by omega), if_pos trivial], by simp only [upd]; rw [if_neg (by omega), if_neg (by omega), if_pos trivial]; rfl, by simp only [upd]; rw [if_neg (by omega), if_pos trivial]; rfl, by simp only [upd]; rw [if_pos trivial]; rfl⟩, by rw [ht]; exact hP, va_K.moved hW.alike hK, hD⟩, hS.F ht⟩) hS.2.2 dX0_addNumber_48
                  · exact absurd cq9 (by omega)
set_option maxHeartbeats 4000000 in
set_option maxRecDepth 100000 in
/-- removeFirst(n) -/
theorem c_X0_removeFirst (l : Launch) (dC : Nat → ClassId) (dI : Nat → Nat → Nat) (cB cI : ClassId) (sz : Nat) (h q lim len cnt : Nat) (f : Nat → Int32) (hc : cnt ≤ len) (hn : len ≤ 65536) (hm : lim ≤ 65536) (hfit : sb_Fit f) (i : Int) (hi : -2147483648 ≤ i ∧ i ≤ 2147483647) : Met l yX0_removeFirst wX0_removeFirst ({ frames := 1, cells := 0, slots := 0, locals := 48 }) (va_Pc [.ref h, .int (iI (i))] (vx_B (dC, dI) vwCl [(cB, .byte), (cI, .int)] [(h, .inr (0, [.int (iI ((lim : Int))), .ref q, .int (iI ((cnt : Int)))])), (q, .inl (cB, len, .inl (f)))] sz)) (va_Qi (fun (r : Int32) (u : (Nat → Int32) × Nat) => r = iI (if 0 ≤ i ∧ i ≤ cnt then 1 else 0) ∧ sb_Fit u.1 ∧ (0 ≤ i ∧ i ≤ cnt → u.2 = cnt - i.toNat ∧ ∀ j, j < cnt - i.toNat → u.1 j = f (i.toNat + j)) ∧ (¬ (0 ≤ i ∧ i ≤ cnt) → u = (f, cnt))) (fun (u : (Nat → Int32) × Nat) => vx_E (dC, dI) vwCl [(cB, .byte), (cI, .int)] (va_A [(h, .inr (0, [.int (iI ((lim : Int))), .ref q, .int (iI ((cnt : Int)))])), (q, .inl (cB, len, .inl (f)))] sz) [(h, .inr (0, [.int (iI ((lim : Int))), .ref q, .int (iI ((u.2 : Int)))])), (q, .inl (cB, len, .inl (u.1)))]) (va_A [(h, .inr (0, [.int (iI ((lim : Int))), .ref q, .int (iI ((cnt : Int)))])), (q, .inl (cB, len, .inl (f)))] sz)) (0) (0) (va_A [(h, .inr (0, [.int (iI ((lim : Int))), .ref q, .int (iI ((cnt : Int)))])), (q, .inl (cB, len, .inl (f)))] sz) := by
  refine Met.ofW (cc := cX0_removeFirst) (maxL := 2) (ret := (some .boolean)) (by decide) rfl ?_
  intro p e s m args below meth c s₁ B hml hv
  obtain ⟨rfl, hsz, hP, hK, hD0⟩ := hv
  have hx := B.exec
  have hb := B.bytes
  have hr := B.returns
  have hts := atoms_spec (ws := wX0_removeFirst) B.pre
  have hown : s.vm.findClass "RequestCutter$ByteRow" = some m.cls := findClass_of_methodNamed B.named
  have hlocks := B.notSynchronized
  subst hsz
  have hD := hD0.self (sz := s.heap.size)
  generalize hAe : va_A [(h, .inr (0, [.int (iI ((lim : Int))), .ref q, .int (iI ((cnt : Int)))])), (q, .inl (cB, len, .inl (f)))] s.heap.size = A at hD ⊢
  have hA : ∀ q : Nat, s.heap.size ≤ q → A q := fun q h => by rw [← hAe]; exact Or.inr h
  have hS : va_S A s.heap s.heap [] := va_S.rf
  have hP : va_P (dC, dI) vwCl [(h, .inr (0, [.int (iI ((lim : Int))), .ref q, .int (iI ((cnt : Int)))])), (q, .inl (cB, len, .inl (f)))] s.heap := hP
  have hl := lv_entry ([.ref h, .int (iI (i))]) (n := 2) (Nat.le_of_ble_eq_true rfl)
  rw [lg_entry_eq]
  generalize (lg_sl ([.ref h, .int (iI (i))]) ++ List.replicate (2 - (lg_sl ([.ref h, .int (iI (i))])).length) Slot.unset).toArray = ls at hl ⊢
  have hl : lv_has ls 2 [(0, .ref h), (1, .int (iI (i)))] := hl
  refine lv_iload_n hx hb dX0_removeFirst_0 rfl (lv_at hl 1 rfl) ?_
  refine lx_if_lt (a := i) (tgt := 12) hx hb dX0_removeFirst_1 (by decide) (by omega) (fun cq1 => ?_) (fun cq1 => ?_)
  · refine lv_iconst (v := iI (0)) hx hb dX0_removeFirst_12 rfl ?_
    exact W.zret (v := iI (0)) hx hb hr (by rfl) (fun t ht hW => ⟨⟨iI (0), (f, cnt), rfl, ⟨by rw [if_neg (by omega)], hfit, fun z => by omega, fun _ => rfl⟩, by rw [ht]; exact hP, va_K.moved hW.alike hK, hD⟩, hS.F ht⟩) hS.2.2 dX0_removeFirst_13
  · refine lv_iload_n hx hb dX0_removeFirst_4 rfl (lv_at hl 1 rfl) ?_
    refine lv_aload_n hx hb dX0_removeFirst_5 rfl (lv_at hl 0 rfl) ?_
    refine va_get (D := (dC, dI)) (ci := 0) (v := .int (iI ((cnt : Int)))) (C := "RequestCutter$ByteRow") (T := TX0) (N := 3) hx hb hts (fun w h => List.mem_cons_of_mem _ (inX0 w h)) hown hK hP 0 rfl rfl 2 (by decide) (hts _ (List.mem_cons_of_mem _ tw_42)) (fun _ h9 => h9) rfl dX0_removeFirst_6 ?_
    refine lx_icmp_le (a := i) (b := (cnt : Int)) (tgt := 14) hx hb dX0_removeFirst_9 (by decide) (by omega) (by omega) (fun cq2 => ?_) (fun cq2 => ?_)
    · refine lv_aload_n hx hb dX0_removeFirst_14 rfl (lv_at hl 0 rfl) ?_
      refine va_get (D := (dC, dI)) (ci := 0) (v := .ref q) (C := "RequestCutter$ByteRow") (T := TX0) (N := 3) hx hb hts (fun w h => List.mem_cons_of_mem _ (inX0 w h)) hown hK hP 0 rfl rfl 1 (by decide) (hts _ (List.mem_cons_of_mem _ tw_41)) (fun _ h9 => h9) rfl dX0_removeFirst_15 ?_
      refine lv_iload_n hx hb dX0_removeFirst_18 rfl (lv_at hl 1 rfl) ?_
      refine lv_aload_n hx hb dX0_removeFirst_19 rfl (lv_at hl 0 rfl) ?_
      refine va_get (D := (dC, dI)) (ci := 0) (v := .ref q) (C := "RequestCutter$ByteRow") (T := TX0) (N := 3) hx hb hts (fun w h => List.mem_cons_of_mem _ (inX0 w h)) hown hK hP 0 rfl rfl 1 (by decide) (hts _ (List.mem_cons_of_mem _ tw_41)) (fun _ h9 => h9) rfl dX0_removeFirst_20 ?_
      refine lv_iconst (v := iI (0)) hx hb dX0_removeFirst_23 rfl ?_
      refine lv_aload_n hx hb dX0_removeFirst_24 rfl (lv_at hl 0 rfl) ?_
      refine va_get (D := (dC, dI)) (ci := 0) (v := .int (iI ((cnt : Int)))) (C := "RequestCutter$ByteRow") (T := TX0) (N := 3) hx hb hts (fun w h => List.mem_cons_of_mem _ (inX0 w h)) hown hK hP 0 rfl rfl 2 (by decide) (hts _ (List.mem_cons_of_mem _ tw_42)) (fun _ h9 => h9) rfl dX0_removeFirst_25 ?_
      refine lv_iload_n hx hb dX0_removeFirst_28 rfl (lv_at hl 1 rfl) ?_
      refine lx_isub (a := (cnt : Int)) (b := i) hx hb dX0_removeFirst_29 ?_
      refine lx_copy (ty := .byte) (sp := i) (dp := 0) (n := ((cnt : Int)) - i) hx hb (by rw [hml]; exact hl.1.symm) hown (hts _ (List.mem_cons_of_mem _ tw_144)) (hts _ (List.mem_cons_of_mem _ tw_118)) (hts _ (List.mem_cons_of_mem _ tw_117)) (hts _ (List.mem_cons_of_mem _ tw_25)) hK hP hD hS 1 1 0 0 rfl rfl rfl rfl rfl (i.toNat) (0) (cnt - i.toNat) (by omega) (by omega) (by omega) (by omega) (by omega) (by omega) (fun i _ => hfit i) (Nat.le_of_ble_eq_true rfl) (Nat.le_of_ble_eq_true rfl) dX0_removeFirst_30 (fun H locs hP hD hS => ?_)
      have hP : va_P (dC, dI) vwCl [(h, .inr (0, [.int (iI ((lim : Int))), .ref q, .int (iI ((cnt : Int)))])), (q, .inl (cB, len, .inl (va_cpy (f) (f) (i.toNat) (0) (cnt - i.toNat))))] H := hP
      have hD : va_D A [(h, .inr (0, [.int (iI ((lim : Int))), .ref q, .int (iI ((cnt : Int)))])), (q, .inl (cB, len, .inl (va_cpy (f) (f) (i.toNat) (0) (cnt - i.toNat))))] := hD
      refine lv_aload_n hx hb dX0_removeFirst_33 rfl (lv_at hl 0 rfl) ?_
      refine lv_dup hx hb dX0_removeFirst_34 rfl ?_
      refine va_get (D := (dC, dI)) (ci := 0) (v := .int (iI ((cnt : Int)))) (C := "RequestCutter$ByteRow") (T := TX0) (N := 3) hx hb hts (fun w h => List.mem_cons_of_mem _ (inX0 w h)) hown hK hP 0 rfl rfl 2 (by decide) (hts _ (List.mem_cons_of_mem _ tw_42)) (fun _ h9 => h9) rfl dX0_removeFirst_35 ?_
      refine lv_iload_n hx hb dX0_removeFirst_38 rfl (lv_at hl 1 rfl) ?_
      refine lx_isub (a := (cnt : Int)) (b := i) hx hb dX0_removeFirst_39 ?_
      refine lx_top (x2 := iI ((cnt - i.toNat : Nat) : Int)) (congrArg iI (by omega)) ?_
      refine va_put (D := (dC, dI)) (ci := 0) (v := .int (iI (((cnt - i.toNat : Nat) : Int)))) (ty := .int) (C := "RequestCutter$ByteRow") (T := TX0) (N := 3) hx hb hts (fun w h => List.mem_cons_of_mem _ (inX0 w h)) tyX0 tyX0_ok nmX0 hown hK hP hD hS 0 rfl rfl 2 (by decide) (hts _ (List.mem_cons_of_mem _ tw_42)) (fun _ h9 => h9) rfl (by decide +kernel) rfl rfl (Nat.le_of_ble_eq_true rfl) dX0_removeFirst_40 (fun H locs hP hD hS => ?_)
      have hP : va_P (dC, dI) vwCl [(h, .inr (0, [.int (iI ((lim : Int))), .ref q, .int (iI (((cnt - i.toNat : Nat) : Int)))])), (q, .inl (cB, len, .inl (va_cpy (f) (f) (i.toNat) (0) (cnt - i.toNat))))] H := hP
      have hD : va_D A [(h, .inr (0, [.int (iI ((lim : Int))), .ref q, .int (iI (((cnt - i.toNat : Nat) : Int)))])), (q, .inl (cB, len, .inl (va_cpy (f) (f) (i.toNat) (0) (cnt - i.toNat))))] := hD
      refine lv_iconst (v := iI (1)) hx hb dX0_removeFirst_43 rfl ?_
      exact W.zret (v := iI (1)) hx hb hr (by rfl) (fun t ht hW => ⟨⟨iI (1), (va_cpy f f i.toNat 0 (cnt - i.toNat), cnt - i.toNat), rfl, ⟨by rw [if_pos (by omega)], sb_fitC hfit hfit, fun z => ⟨rfl, fun j hj => by show va_cpy f f i.toNat 0 (cnt - i.toNat) j = _; rw [pk_cpy_in (Nat.zero_le _) (by omega), Nat.sub_zero]⟩, fun z => by omega⟩, by rw [ht]; exact hP, va_K.moved hW.alike hK, hD⟩, hS.F ht⟩) hS.2.2 dX0_removeFirst_44
    · refine lv_iconst (v := iI (0)) hx hb dX0_removeFirst_12 rfl ?_
      exact W.zret (v := iI (0)) hx hb hr (by rfl) (fun t ht hW => ⟨⟨iI (0), (f, cnt), rfl, ⟨by rw [if_neg (by omega)], hfit, fun z => by omega, fun _ => rfl⟩, by rw [ht]; exact hP, va_K.moved hW.alike hK, hD⟩, hS.F ht⟩) hS.2.2 dX0_removeFirst_13
set_option maxHeartbeats 4000000 in
set_option maxRecDepth 100000 in
/-- addFirstOf(other, n) -/
theorem c_X0_addFirstOf (l : Launch) (dC : Nat → ClassId) (dI : Nat → Nat → Nat) (cB cI : ClassId) (sz : Nat) (h q lim len cnt : Nat) (f : Nat → Int32) (hc : cnt ≤ len) (hn : len ≤ 65536) (hm : lim ≤ 65536) (hll : len ≤ lim) (hfit : sb_Fit f) (h2 q2 lim2 len2 cnt2 : Nat) (g : Nat → Int32) (hc2 : cnt2 ≤ len2) (hn2 : len2 ≤ 65536) (hm2 : lim2 ≤ 65536) (hfit2 : sb_Fit g) (i : Int) (hi : -2147483648 ≤ i ∧ i ≤ 2147483647) (mc ms : Nat) (hroom : ((0 ≤ i ∧ i ≤ cnt2) ∧ i ≤ (lim : Int) - cnt) ∧ (len : Int) < cnt + i → 1 ≤ mc ∧ gL lim len (cnt + i.toNat) ≤ ms) : Met l yX0_addFirstOf wX0_addFirstOf ({ frames := 3, cells := mc, slots := ms, locals := 93 }) (va_Pc [.ref h, .ref h2, .int (iI (i))] (vx_B (dC, dI) vwCl [(cB, .byte), (cI, .int)] [(h, .inr (0, [.int (iI ((lim : Int))), .ref q, .int (iI ((cnt : Int)))])), (q, .inl (cB, len, .inl (f))), (h2, .inr (0, [.int (iI ((lim2 : Int))), .ref q2, .int (iI ((cnt2 : Int)))])), (q2, .inl (cB, len2, .inl (g)))] sz)) (va_Qi (fun (r : Int32) (u : Nat × Nat × Nat × (Nat → Int32)) => r = iI (if ((0 ≤ i ∧ i ≤ cnt2) ∧ i ≤ (lim : Int) - cnt) then 1 else 0) ∧ sb_Fit u.2.2.2 ∧ u.2.1 = (if ((0 ≤ i ∧ i ≤ cnt2) ∧ i ≤ (lim : Int) - cnt) ∧ (len : Int) < cnt + i then gL lim len (cnt + i.toNat) else len) ∧ u.2.1 ≤ lim ∧ (((0 ≤ i ∧ i ≤ cnt2) ∧ i ≤ (lim : Int) - cnt) → u.2.2.1 = cnt + i.toNat ∧ cnt + i.toNat ≤ u.2.1 ∧ (∀ j, j < cnt → u.2.2.2 j = f j) ∧ ∀ j, j < i.toNat → u.2.2.2 (cnt + j) = g j) ∧ (¬ ((0 ≤ i ∧ i ≤ cnt2) ∧ i ≤ (lim : Int) - cnt) → u.2.2.1 = cnt ∧ cnt ≤ u.2.1 ∧ ∀ j, j < cnt → u.2.2.2 j = f j)) (fun (u : Nat × Nat × Nat × (Nat → Int32)) => vx_E (dC, dI) vwCl [(cB, .byte), (cI, .int)] (va_A [(h, .inr (0, [.int (iI ((lim : Int))), .ref q, .int (iI ((cnt : Int)))])), (q, .inl (cB, len, .inl (f))), (h2, .inr (0, [.int (iI ((lim2 : Int))), .ref q2, .int (iI ((cnt2 : Int)))])), (q2, .inl (cB, len2, .inl (g)))] sz) [(h, .inr (0, [.int (iI ((lim : Int))), .ref u.1, .int (iI ((u.2.2.1 : Int)))])), (u.1, .inl (cB, u.2.1, .inl (u.2.2.2))), (h2, .inr (0, [.int (iI ((lim2 : Int))), .ref q2, .int (iI ((cnt2 : Int)))])), (q2, .inl (cB, len2, .inl (g)))]) (va_A [(h, .inr (0, [.int (iI ((lim : Int))), .ref q, .int (iI ((cnt : Int)))])), (q, .inl (cB, len, .inl (f))), (h2, .inr (0, [.int (iI ((lim2 : Int))), .ref q2, .int (iI ((cnt2 : Int)))])), (q2, .inl (cB, len2, .inl (g)))] sz)) (mc) (ms) (va_A [(h, .inr (0, [.int (iI ((lim : Int))), .ref q, .int (iI ((cnt : Int)))])), (q, .inl (cB, len, .inl (f))), (h2, .inr (0, [.int (iI ((lim2 : Int))), .ref q2, .int (iI ((cnt2 : Int)))])), (q2, .inl (cB, len2, .inl (g)))] sz) := by
  refine Met.ofW (cc := cX0_addFirstOf) (maxL := 3) (ret := (some .boolean)) (by decide) rfl ?_
  intro p e s m args below meth c s₁ B hml hv
  obtain ⟨rfl, hsz, hP, hK, hD0⟩ := hv
  have hx := B.exec
  have hb := B.bytes
  have hr := B.returns
  have hts := atoms_spec (ws := wX0_addFirstOf) B.pre
  have hown : s.vm.findClass "RequestCutter$ByteRow" = some m.cls := findClass_of_methodNamed B.named
  have hlocks := B.notSynchronized
  subst hsz
  have hD := hD0.self (sz := s.heap.size)
  generalize hAe : va_A [(h, .inr (0, [.int (iI ((lim : Int))), .ref q, .int (iI ((cnt : Int)))])), (q, .inl (cB, len, .inl (f))), (h2, .inr (0, [.int (iI ((lim2 : Int))), .ref q2, .int (iI ((cnt2 : Int)))])), (q2, .inl (cB, len2, .inl (g)))] s.heap.size = A at hD ⊢
  have hA : ∀ q : Nat, s.heap.size ≤ q → A q := fun q h => by rw [← hAe]; exact Or.inr h
  have hS : va_S A s.heap s.heap [] := va_S.rf
  have hP : va_P (dC, dI) vwCl [(h, .inr (0, [.int (iI ((lim : Int))), .ref q, .int (iI ((cnt : Int)))])), (q, .inl (cB, len, .inl (f))), (h2, .inr (0, [.int (iI ((lim2 : Int))), .ref q2, .int (iI ((cnt2 : Int)))])), (q2, .inl (cB, len2, .inl (g)))] s.heap := hP
  have hl := lv_entry ([.ref h, .ref h2, .int (iI (i))]) (n := 3) (Nat.le_of_ble_eq_true rfl)
  rw [lg_entry_eq]
  generalize (lg_sl ([.ref h, .ref h2, .int (iI (i))]) ++ List.replicate (3 - (lg_sl ([.ref h, .ref h2, .int (iI (i))])).length) Slot.unset).toArray = ls at hl ⊢
  have hl : lv_has ls 3 [(0, .ref h), (1, .ref h2), (2, .int (iI (i)))] := hl
  refine lv_iload_n hx hb dX0_addFirstOf_0 rfl (lv_at hl 2 rfl) ?_
  refine lx_if_lt (a := i) (tgt := 20) hx hb dX0_addFirstOf_1 (by decide) (by omega) (fun cq1 => ?_) (fun cq1 => ?_)
  · refine lv_iconst (v := iI (0)) hx hb dX0_addFirstOf_20 rfl ?_
    refine W.widen (k := mc) (n := ms) (Nat.zero_le _) (Nat.zero_le _) ?_
    exact W.zret (v := iI (0)) hx hb hr (by rfl) (fun t ht hW => ⟨⟨iI (0), (q, len, cnt, f), rfl, ⟨by rw [if_neg (by omega)], hfit, by show len = _; rw [if_neg (by omega)], hll, fun z => by omega, fun z => ⟨rfl, hc, fun _ _ => rfl⟩⟩, by rw [ht]; exact hP, va_K.moved hW.alike hK, hD⟩, hS.F ht⟩) hS.2.2 dX0_addFirstOf_21
  · refine lv_iload_n hx hb dX0_addFirstOf_4 rfl (lv_at hl 2 rfl) ?_
    refine lv_aload_n hx hb dX0_addFirstOf_5 rfl (lv_at hl 1 rfl) ?_
    refine va_get (D := (dC, dI)) (ci := 0) (v := .int (iI ((cnt2 : Int)))) (C := "RequestCutter$ByteRow") (T := TX0) (N := 3) hx hb hts (fun w h => List.mem_cons_of_mem _ (inX0 w h)) hown hK hP 2 rfl rfl 2 (by decide) (hts _ (List.mem_cons_of_mem _ tw_42)) (fun _ h9 => h9) rfl dX0_addFirstOf_6 ?_
    refine lx_icmp_gt (a := i) (b := (cnt2 : Int)) (tgt := 20) hx hb dX0_addFirstOf_9 (by decide) (by omega) (by omega) (fun cq2 => ?_) (fun cq2 => ?_)
    · refine lv_iconst (v := iI (0)) hx hb dX0_addFirstOf_20 rfl ?_
      refine W.widen (k := mc) (n := ms) (Nat.zero_le _) (Nat.zero_le _) ?_
      exact W.zret (v := iI (0)) hx hb hr (by rfl) (fun t ht hW => ⟨⟨iI (0), (q, len, cnt, f), rfl, ⟨by rw [if_neg (by omega)], hfit, by show len = _; rw [if_neg (by omega)], hll, fun z => by omega, fun z => ⟨rfl, hc, fun _ _ => rfl⟩⟩, by rw [ht]; exact hP, va_K.moved hW.alike hK, hD⟩, hS.F ht⟩) hS.2.2 dX0_addFirstOf_21
    · refine lv_aload_n hx hb dX0_addFirstOf_12 rfl (lv_at hl 0 rfl) ?_
      refine lv_iload_n hx hb dX0_addFirstOf_13 rfl (lv_at hl 2 rfl) ?_
      refine vx_Vi (As := [.int (iI (i))]) (rest := []) (wr := [(h2, .inr (0, [.int (iI ((lim2 : Int))), .ref q2, .int (iI ((cnt2 : Int)))])), (q2, .inl (cB, len2, .inl (g)))]) (ci := 0) (q0 := 0) [0, 1] [2, 3] ⟨hx, hb, hml, hown, hts⟩ (c_X0_makeRoom l dC dI cB cI _ h q lim len cnt f hc hn hm hll hfit i hi mc ms (fun z => hroom (by omega))) (cwV 1 hts (gd_V tw_143 tw_96 tw_97 tw_20 tw_98) rfl rfl rfl (by decide +kernel) ⟨Nat.le_of_ble_eq_true rfl, Nat.le_of_ble_eq_true rfl⟩) hK hP hD hS hA rfl rfl rfl rfl (by decide) rfl rfl rfl rfl hl.1 rfl (Nat.le_of_ble_eq_true rfl) dX0_addFirstOf_14 ⟨by show 0 + mc ≤ mc; omega, by show 0 + ms ≤ ms; omega⟩ (fun r u H locs hw hP hD hS => ?_)
      obtain ⟨q1, len1, f1⟩ := u
      try dsimp only at hw hP hD
      obtain ⟨hr1, ⟨hfit1, hk1⟩, hl1, hok1, hlim1⟩ := hw
      have hP : va_P (dC, dI) vwCl [(h, .inr (0, [.int (iI ((lim : Int))), .ref q1, .int (iI ((cnt : Int)))])), (q1, .inl (cB, len1, .inl (f1))), (h2, .inr (0, [.int (iI ((lim2 : Int))), .ref q2, .int (iI ((cnt2 : Int)))])), (q2, .inl (cB, len2, .inl (g)))] H := hP.sub [2, 3, 0, 1] rfl
      have hD : va_D A [(h, .inr (0, [.int (iI ((lim : Int))), .ref q1, .int (iI ((cnt : Int)))])), (q1, .inl (cB, len1, .inl (f1))), (h2, .inr (0, [.int (iI ((lim2 : Int))), .ref q2, .int (iI ((cnt2 : Int)))])), (q2, .inl (cB, len2, .inl (g)))] := hD.sub [2, 3, 0, 1] (by decide) rfl
      obtain ⟨b1, hb1, rfl⟩ := bo_of hr1
      refine W.widen (k := mc) (n := ms) (by omega) (by omega) ?_
      refine lx_if_ne (a := b1) (tgt := 22) hx hb dX0_addFirstOf_17 (by decide) (by omega) (fun cq3 => ?_) (fun cq3 => ?_)
      · refine lv_aload_n hx hb dX0_addFirstOf_22 rfl (lv_at hl 1 rfl) ?_
        refine va_get (D := (dC, dI)) (ci := 0) (v := .ref q2) (C := "RequestCutter$ByteRow") (T := TX0) (N := 3) hx hb hts (fun w h => List.mem_cons_of_mem _ (inX0 w h)) hown hK hP 2 rfl rfl 1 (by decide) (hts _ (List.mem_cons_of_mem _ tw_41)) (fun _ h9 => h9) rfl dX0_addFirstOf_23 ?_
        refine lv_iconst (v := iI (0)) hx hb dX0_addFirstOf_26 rfl ?_
        refine lv_aload_n hx hb dX0_addFirstOf_27 rfl (lv_at hl 0 rfl) ?_
        refine va_get (D := (dC, dI)) (ci := 0) (v := .ref q1) (C := "RequestCutter$ByteRow") (T := TX0) (N := 3) hx hb hts (fun w h => List.mem_cons_of_mem _ (inX0 w h)) hown hK hP 0 rfl rfl 1 (by decide) (hts _ (List.mem_cons_of_mem _ tw_41)) (fun _ h9 => h9) rfl dX0_addFirstOf_28 ?_
        refine lv_aload_n hx hb dX0_addFirstOf_31 rfl (lv_at hl 0 rfl) ?_
        refine va_get (D := (dC, dI)) (ci := 0) (v := .int (iI ((cnt : Int)))) (C := "RequestCutter$ByteRow") (T := TX0) (N := 3) hx hb hts (fun w h => List.mem_cons_of_mem _ (inX0 w h)) hown hK hP 0 rfl rfl 2 (by decide) (hts _ (List.mem_cons_of_mem _ tw_42)) (fun _ h9 => h9) rfl dX0_addFirstOf_32 ?_
        refine lv_iload_n hx hb dX0_addFirstOf_35 rfl (lv_at hl 2 rfl) ?_
        refine lx_copy (ty := .byte) (sp := 0) (dp := (cnt : Int)) (n := i) hx hb (by rw [hml]; exact hl.1.symm) hown (hts _ (List.mem_cons_of_mem _ tw_144)) (hts _ (List.mem_cons_of_mem _ tw_118)) (hts _ (List.mem_cons_of_mem _ tw_117)) (hts _ (List.mem_cons_of_mem _ tw_25)) hK hP hD hS 3 1 0 0 rfl rfl rfl rfl rfl (0) (cnt) (i.toNat) (by omega) (by omega) (by omega) (by omega) (by omega) (by omega) (fun j _ => hfit2 j) (Nat.le_of_ble_eq_true rfl) (Nat.le_of_ble_eq_true rfl) dX0_addFirstOf_36 (fun H locs hP hD hS => ?_)
        have hP : va_P (dC, dI) vwCl [(h, .inr (0, [.int (iI ((lim : Int))), .ref q1, .int (iI ((cnt : Int)))])), (q1, .inl (cB, len1, .inl (va_cpy (g) (f1) (0) (cnt) (i.toNat)))), (h2, .inr (0, [.int (iI ((lim2 : Int))), .ref q2, .int (iI ((cnt2 : Int)))])), (q2, .inl (cB, len2, .inl (g)))] H := hP
        have hD : va_D A [(h, .inr (0, [.int (iI ((lim : Int))), .ref q1, .int (iI ((cnt : Int)))])), (q1, .inl (cB, len1, .inl (va_cpy (g) (f1) (0) (cnt) (i.toNat)))), (h2, .inr (0, [.int (iI ((lim2 : Int))), .ref q2, .int (iI ((cnt2 : Int)))])), (q2, .inl (cB, len2, .inl (g)))] := hD
        refine lv_aload_n hx hb dX0_addFirstOf_39 rfl (lv_at hl 0 rfl) ?_
        refine lv_dup hx hb dX0_addFirstOf_40 rfl ?_
        refine va_get (D := (dC, dI)) (ci := 0) (v := .int (iI ((cnt : Int)))) (C := "RequestCutter$ByteRow") (T := TX0) (N := 3) hx hb hts (fun w h => List.mem_cons_of_mem _ (inX0 w h)) hown hK hP 0 rfl rfl 2 (by decide) (hts _ (List.mem_cons_of_mem _ tw_42)) (fun _ h9 => h9) rfl dX0_addFirstOf_41 ?_
        refine lv_iload_n hx hb dX0_addFirstOf_44 rfl (lv_at hl 2 rfl) ?_
        refine lx_iadd (a := (cnt : Int)) (b := i) hx hb dX0_addFirstOf_45 ?_
        refine lx_top (x2 := iI ((cnt + i.toNat : Nat) : Int)) (congrArg iI (by omega)) ?_
        refine va_put (D := (dC, dI)) (ci := 0) (v := .int (iI (((cnt + i.toNat : Nat) : Int)))) (ty := .int) (C := "RequestCutter$ByteRow") (T := TX0) (N := 3) hx hb hts (fun w h => List.mem_cons_of_mem _ (inX0 w h)) tyX0 tyX0_ok nmX0 hown hK hP hD hS 0 rfl rfl 2 (by decide) (hts _ (List.mem_cons_of_mem _ tw_42)) (fun _ h9 => h9) rfl (by decide +kernel) rfl rfl (Nat.le_of_ble_eq_true rfl) dX0_addFirstOf_46 (fun H locs hP hD hS => ?_)
        have hP : va_P (dC, dI) vwCl [(h, .inr (0, [.int (iI ((lim : Int))), .ref q1, .int (iI (((cnt + i.toNat : Nat) : Int)))])), (q1, .inl (cB, len1, .inl (va_cpy (g) (f1) (0) (cnt) (i.toNat)))), (h2, .inr (0, [.int (iI ((lim2 : Int))), .ref q2, .int (iI ((cnt2 : Int)))])), (q2, .inl (cB, len2, .inl (g)))] H := hP
        have hD : va_D A [(h, .inr (0, [.int (iI ((lim : Int))), .ref q1, .int (iI (((cnt + i.toNat : Nat) : Int)))])), (q1, .inl (cB, len1, .inl (va_cpy (g) (f1) (0) (cnt) (i.toNat)))), (h2, .inr (0, [.int (iI ((lim2 : Int))), .ref q2, .int (iI ((cnt2 : Int)))])), (q2, .inl (cB, len2, .inl (g)))] := hD
        refine lv_iconst (v := iI (1)) hx hb dX0_addFirstOf_49 rfl ?_
        exact W.zret (v := iI (1)) hx hb hr (by rfl) (fun t ht hW => ⟨⟨iI (1), (q1, len1, cnt + i.toNat, va_cpy g f1 0 cnt i.toNat), rfl, ⟨by rw [if_pos (by omega)], sb_fitC hfit2 hfit1, by show len1 = _; rw [hl1]; by_cases z : (len : Int) < cnt + i; rw [if_pos (by omega), if_pos (by omega)]; rw [if_neg (by omega), if_neg (by omega)], hlim1, fun z => ⟨rfl, by show cnt + i.toNat ≤ len1; have := hok1 (by omega); omega, fun j hj => by show va_cpy g f1 0 cnt i.toNat j = _; rw [pk_cpy_out (by omega)]; exact hk1 j hj, fun j hj => by show va_cpy g f1 0 cnt i.toNat (cnt + j) = _; rw [pk_cpy_in (by omega) (by omega)]; congr 1; omega⟩, fun z => absurd (by omega) z⟩, by rw [ht]; exact hP, va_K.moved hW.alike hK, hD⟩, hS.F ht⟩) hS.2.2 dX0_addFirstOf_50
      · refine lv_iconst (v := iI (0)) hx hb dX0_addFirstOf_20 rfl ?_
        exact W.zret (v := iI (0)) hx hb hr (by rfl) (fun t ht hW => ⟨⟨iI (0), (q1, len1, cnt, f1), rfl, ⟨by rw [if_neg (by omega)], hfit1, by show len1 = _; rw [hl1, if_neg (by omega), if_neg (by omega)], hlim1, fun z => by omega, fun z => ⟨rfl, by show cnt ≤ len1; rw [hl1, if_neg (by omega)]; exact hc, fun j hj => hk1 j hj⟩⟩, by rw [ht]; exact hP, va_K.moved hW.alike hK, hD⟩, hS.F ht⟩) hS.2.2 dX0_addFirstOf_21
