set_option maxHeartbeats 4000000 in
set_option maxRecDepth 100000 in
/-- the reference: fault() -/
theorem c_X3_fault (l : Launch) (dC : Nat → ClassId) (dI : Nat → Nat → Nat) (cB cI : ClassId) (m0 mt mi mk mf ml tc n w ks : Nat) (ft pa : Int) : Met l yX3_fault wX3_fault ({ frames := 0, cells := 0, slots := 0, locals := 0 }) (va_Pc [.ref m0] (vx_R (dC, dI) vwCl [(cB, .byte), (cI, .int)] [(m0, .inr (3, [.ref mt, .ref mi, .ref mk, .ref mf, .ref ml, .int (iI ((tc : Int))), .int (iI ((n : Int))), .int (iI ((w : Int))), .int (iI ((ks : Int))), .int (iI (ft)), .int (iI (pa))]))])) (vp_Si (fun r => r = iI ft)) 0 0 (fun _ => False) := by
  refine Met.ofW (cc := cX3_fault) (maxL := 1) (ret := (some .int)) (by decide) rfl ?_
  intro p e s m args below meth c s₁ B hml hv
  obtain ⟨rfl, hP, hK⟩ := hv
  have hx := B.exec
  have hb := B.bytes
  have hr := B.returns
  have hts := atoms_spec (ws := wX3_fault) B.pre
  have hown : s.vm.findClass "RequestCutterModel" = some m.cls := findClass_of_methodNamed B.named
  have hlocks := B.notSynchronized
  have hP : va_P (dC, dI) vwCl [(m0, .inr (3, [.ref mt, .ref mi, .ref mk, .ref mf, .ref ml, .int (iI ((tc : Int))), .int (iI ((n : Int))), .int (iI ((w : Int))), .int (iI ((ks : Int))), .int (iI (ft)), .int (iI (pa))]))] s.heap := hP
  have hl := lv_entry ([.ref m0]) (n := 1) (Nat.le_of_ble_eq_true rfl)
  rw [lg_entry_eq]
  generalize (lg_sl ([.ref m0]) ++ List.replicate (1 - (lg_sl ([.ref m0])).length) Slot.unset).toArray = ls at hl ⊢
  have hl : lv_has ls 1 [(0, .ref m0)] := hl
  refine lv_aload_n hx hb dX3_fault_0 rfl (lv_at hl 0 rfl) ?_
  refine va_get (D := (dC, dI)) (ci := 3) (v := .int (iI (ft))) (C := "RequestCutterModel") (T := TX3) (N := 11) hx hb hts (fun w h => List.mem_cons_of_mem _ (inX3 w h)) hown hK hP 0 rfl rfl 9 (by decide) (hts _ (List.mem_cons_of_mem _ tw_275)) (fun _ h9 => h9) rfl dX3_fault_1 ?_
  exact W.iret (v := iI (ft)) hx hb hr (fun t ht hW => ⟨iI (ft), rfl, rfl, ht⟩) (fun _ h => by cases h) dX3_fault_4
set_option maxHeartbeats 4000000 in
set_option maxRecDepth 100000 in
/-- waiting() -/
theorem c_X3_waiting (l : Launch) (dC : Nat → ClassId) (dI : Nat → Nat → Nat) (cB cI : ClassId) (m0 mt mi mk mf ml tc n w ks : Nat) (ft pa : Int) : Met l yX3_waiting wX3_waiting ({ frames := 0, cells := 0, slots := 0, locals := 0 }) (va_Pc [.ref m0] (vx_R (dC, dI) vwCl [(cB, .byte), (cI, .int)] [(m0, .inr (3, [.ref mt, .ref mi, .ref mk, .ref mf, .ref ml, .int (iI ((tc : Int))), .int (iI ((n : Int))), .int (iI ((w : Int))), .int (iI ((ks : Int))), .int (iI (ft)), .int (iI (pa))]))])) (vp_Si (fun r => r = iI (n : Int))) 0 0 (fun _ => False) := by
  refine Met.ofW (cc := cX3_waiting) (maxL := 1) (ret := (some .int)) (by decide) rfl ?_
  intro p e s m args below meth c s₁ B hml hv
  obtain ⟨rfl, hP, hK⟩ := hv
  have hx := B.exec
  have hb := B.bytes
  have hr := B.returns
  have hts := atoms_spec (ws := wX3_waiting) B.pre
  have hown : s.vm.findClass "RequestCutterModel" = some m.cls := findClass_of_methodNamed B.named
  have hlocks := B.notSynchronized
  have hP : va_P (dC, dI) vwCl [(m0, .inr (3, [.ref mt, .ref mi, .ref mk, .ref mf, .ref ml, .int (iI ((tc : Int))), .int (iI ((n : Int))), .int (iI ((w : Int))), .int (iI ((ks : Int))), .int (iI (ft)), .int (iI (pa))]))] s.heap := hP
  have hl := lv_entry ([.ref m0]) (n := 1) (Nat.le_of_ble_eq_true rfl)
  rw [lg_entry_eq]
  generalize (lg_sl ([.ref m0]) ++ List.replicate (1 - (lg_sl ([.ref m0])).length) Slot.unset).toArray = ls at hl ⊢
  have hl : lv_has ls 1 [(0, .ref m0)] := hl
  refine lv_aload_n hx hb dX3_waiting_0 rfl (lv_at hl 0 rfl) ?_
  refine va_get (D := (dC, dI)) (ci := 3) (v := .int (iI ((n : Int)))) (C := "RequestCutterModel") (T := TX3) (N := 11) hx hb hts (fun w h => List.mem_cons_of_mem _ (inX3 w h)) hown hK hP 0 rfl rfl 6 (by decide) (hts _ (List.mem_cons_of_mem _ tw_272)) (fun _ h9 => h9) rfl dX3_waiting_1 ?_
  exact W.iret (v := iI ((n : Int))) hx hb hr (fun t ht hW => ⟨iI ((n : Int)), rfl, rfl, ht⟩) (fun _ h => by cases h) dX3_waiting_4
set_option maxHeartbeats 4000000 in
set_option maxRecDepth 100000 in
/-- size(w) -/
theorem c_X3_size (l : Launch) (dC : Nat → ClassId) (dI : Nat → Nat → Nat) (cB cI : ClassId) (m0 mt mi mk mf ml tc n w ks : Nat) (ft pa : Int) (la : Nat → Int) (hw : w ≤ 1024) (i : Int) (hi : -2147483648 ≤ i ∧ i ≤ 2147483647) : Met l yX3_size wX3_size ({ frames := 0, cells := 0, slots := 0, locals := 0 }) (va_Pc [.ref m0, .int (iI (i))] (vx_R (dC, dI) vwCl [(cB, .byte), (cI, .int)] [(m0, .inr (3, [.ref mt, .ref mi, .ref mk, .ref mf, .ref ml, .int (iI ((tc : Int))), .int (iI ((n : Int))), .int (iI ((w : Int))), .int (iI ((ks : Int))), .int (iI (ft)), .int (iI (pa))])), (ml, .inl (cI, 1025, .inl (fun k => iI (la k))))])) (vp_Si (fun r => r = iI (if 0 ≤ i ∧ i < w then la i.toNat else -1))) 0 0 (fun _ => False) := by
  refine Met.ofW (cc := cX3_size) (maxL := 2) (ret := (some .int)) (by decide) rfl ?_
  intro p e s m args below meth c s₁ B hml hv
  obtain ⟨rfl, hP, hK⟩ := hv
  have hx := B.exec
  have hb := B.bytes
  have hr := B.returns
  have hts := atoms_spec (ws := wX3_size) B.pre
  have hown : s.vm.findClass "RequestCutterModel" = some m.cls := findClass_of_methodNamed B.named
  have hlocks := B.notSynchronized
  have hP : va_P (dC, dI) vwCl [(m0, .inr (3, [.ref mt, .ref mi, .ref mk, .ref mf, .ref ml, .int (iI ((tc : Int))), .int (iI ((n : Int))), .int (iI ((w : Int))), .int (iI ((ks : Int))), .int (iI (ft)), .int (iI (pa))])), (ml, .inl (cI, 1025, .inl (fun k => iI (la k))))] s.heap := hP
  have hl := lv_entry ([.ref m0, .int (iI (i))]) (n := 2) (Nat.le_of_ble_eq_true rfl)
  rw [lg_entry_eq]
  generalize (lg_sl ([.ref m0, .int (iI (i))]) ++ List.replicate (2 - (lg_sl ([.ref m0, .int (iI (i))])).length) Slot.unset).toArray = ls at hl ⊢
  have hl : lv_has ls 2 [(0, .ref m0), (1, .int (iI (i)))] := hl
  refine lv_iload_n hx hb dX3_size_0 rfl (lv_at hl 1 rfl) ?_
  refine lx_if_lt (a := i) (tgt := 21) hx hb dX3_size_1 (by decide) (by omega) (fun cq1 => ?_) (fun cq1 => ?_)
  · refine lv_iconst (v := iI (-1)) hx hb dX3_size_21 rfl ?_
    exact W.iret (v := iI (-1)) hx hb hr (fun t ht hW => ⟨iI (-1), rfl, by rw [if_neg (by omega)], ht⟩) (fun _ h => by cases h) dX3_size_22
  · refine lv_iload_n hx hb dX3_size_4 rfl (lv_at hl 1 rfl) ?_
    refine lv_aload_n hx hb dX3_size_5 rfl (lv_at hl 0 rfl) ?_
    refine va_get (D := (dC, dI)) (ci := 3) (v := .int (iI ((w : Int)))) (C := "RequestCutterModel") (T := TX3) (N := 11) hx hb hts (fun w h => List.mem_cons_of_mem _ (inX3 w h)) hown hK hP 0 rfl rfl 7 (by decide) (hts _ (List.mem_cons_of_mem _ tw_273)) (fun _ h9 => h9) rfl dX3_size_6 ?_
    refine lx_icmp_ge (a := i) (b := (w : Int)) (tgt := 21) hx hb dX3_size_9 (by decide) (by omega) (by omega) (fun cq2 => ?_) (fun cq2 => ?_)
    · refine lv_iconst (v := iI (-1)) hx hb dX3_size_21 rfl ?_
      exact W.iret (v := iI (-1)) hx hb hr (fun t ht hW => ⟨iI (-1), rfl, by rw [if_neg (by omega)], ht⟩) (fun _ h => by cases h) dX3_size_22
    · refine lv_aload_n hx hb dX3_size_12 rfl (lv_at hl 0 rfl) ?_
      refine va_get (D := (dC, dI)) (ci := 3) (v := .ref ml) (C := "RequestCutterModel") (T := TX3) (N := 11) hx hb hts (fun w h => List.mem_cons_of_mem _ (inX3 w h)) hown hK hP 0 rfl rfl 4 (by decide) (hts _ (List.mem_cons_of_mem _ tw_270)) (fun _ h9 => h9) rfl dX3_size_13 ?_
      refine lv_iload_n hx hb dX3_size_16 rfl (lv_at hl 1 rfl) ?_
      refine va_iald hx hb hK hP 1 1 rfl rfl (iI_in (by omega)) dX3_size_17 ?_
      refine lx_top (x2 := iI (la ((i).toNat))) (congrArg (fun k => iI (la k)) (iI_cl (a := i) (by omega))) ?_
      refine lv_goto (tgt := 22) hx hb dX3_size_18 (by decide) ?_
      exact W.iret (v := iI (la ((i).toNat))) hx hb hr (fun t ht hW => ⟨iI (la ((i).toNat)), rfl, by rw [if_pos (by omega)], ht⟩) (fun _ h => by cases h) dX3_size_22
set_option maxHeartbeats 4000000 in
set_option maxRecDepth 100000 in
/-- byteOf(w, i) -/
theorem c_X3_byteOf (l : Launch) (dC : Nat → ClassId) (dI : Nat → Nat → Nat) (cB cI : ClassId) (m0 mt mi mk mf ml tc n w ks : Nat) (ft pa : Int) (kf : Nat → Int32) (fa la : Nat → Int) (hw : w ≤ 1024) (hz : ∀ j, j < w → (0 ≤ fa j ∧ 0 ≤ la j) ∧ fa j + la j ≤ 65536) (i k : Int) (hi : -2147483648 ≤ i ∧ i ≤ 2147483647) (hk : -2147483648 ≤ k ∧ k ≤ 2147483647) : Met l yX3_byteOf wX3_byteOf ({ frames := 1, cells := 0, slots := 0, locals := 21 }) (va_Pc [.ref m0, .int (iI (i)), .int (iI (k))] (vx_R (dC, dI) vwCl [(cB, .byte), (cI, .int)] [(m0, .inr (3, [.ref mt, .ref mi, .ref mk, .ref mf, .ref ml, .int (iI ((tc : Int))), .int (iI ((n : Int))), .int (iI ((w : Int))), .int (iI ((ks : Int))), .int (iI (ft)), .int (iI (pa))])), (mk, .inl (cB, 65536, .inl (kf))), (mf, .inl (cI, 1025, .inl (fun k => iI (fa k)))), (ml, .inl (cI, 1025, .inl (fun k => iI (la k))))])) (vp_Si (fun r => r = iI (if (0 ≤ i ∧ i < w) ∧ 0 ≤ k ∧ k < la i.toNat then bv (kf (fa i.toNat + k).toNat) else -1))) 0 0 (fun _ => False) := by
  refine Met.ofW (cc := cX3_byteOf) (maxL := 3) (ret := (some .int)) (by decide) rfl ?_
  intro p e s m args below meth c s₁ B hml hv
  obtain ⟨rfl, hP, hK⟩ := hv
  have hx := B.exec
  have hb := B.bytes
  have hr := B.returns
  have hts := atoms_spec (ws := wX3_byteOf) B.pre
  have hown : s.vm.findClass "RequestCutterModel" = some m.cls := findClass_of_methodNamed B.named
  have hlocks := B.notSynchronized
  have hP : va_P (dC, dI) vwCl [(m0, .inr (3, [.ref mt, .ref mi, .ref mk, .ref mf, .ref ml, .int (iI ((tc : Int))), .int (iI ((n : Int))), .int (iI ((w : Int))), .int (iI ((ks : Int))), .int (iI (ft)), .int (iI (pa))])), (mk, .inl (cB, 65536, .inl (kf))), (mf, .inl (cI, 1025, .inl (fun k => iI (fa k)))), (ml, .inl (cI, 1025, .inl (fun k => iI (la k))))] s.heap := hP
  have hl := lv_entry ([.ref m0, .int (iI (i)), .int (iI (k))]) (n := 3) (Nat.le_of_ble_eq_true rfl)
  rw [lg_entry_eq]
  generalize (lg_sl ([.ref m0, .int (iI (i)), .int (iI (k))]) ++ List.replicate (3 - (lg_sl ([.ref m0, .int (iI (i)), .int (iI (k))])).length) Slot.unset).toArray = ls at hl ⊢
  have hl : lv_has ls 3 [(0, .ref m0), (1, .int (iI (i))), (2, .int (iI (k)))] := hl
  refine lv_iload_n hx hb dX3_byteOf_0 rfl (lv_at hl 2 rfl) ?_
  refine lx_if_lt (a := k) (tgt := 33) hx hb dX3_byteOf_1 (by decide) (by omega) (fun cq1 => ?_) (fun cq1 => ?_)
  · refine lv_iconst (v := iI (-1)) hx hb dX3_byteOf_33 rfl ?_
    exact W.iret (v := iI (-1)) hx hb hr (fun t ht hW => ⟨iI (-1), rfl, by rw [if_neg (by omega)], ht⟩) (fun _ h => by cases h) dX3_byteOf_34
  · refine lv_iload_n hx hb dX3_byteOf_4 rfl (lv_at hl 2 rfl) ?_
    refine lv_aload_n hx hb dX3_byteOf_5 rfl (lv_at hl 0 rfl) ?_
    refine lv_iload_n hx hb dX3_byteOf_6 rfl (lv_at hl 1 rfl) ?_
    obtain ⟨z, hz1⟩ : ∃ z : Int, z = (if 0 ≤ i ∧ i < w then la i.toNat else -1) := ⟨_, rfl⟩
    have hz2 : ((0 ≤ i ∧ i < w) ∧ z = la i.toNat) ∨ (¬ (0 ≤ i ∧ i < w) ∧ z = -1) := by
      by_cases q : 0 ≤ i ∧ i < w
      · exact Or.inl ⟨q, by rw [hz1, if_pos q]⟩
      · exact Or.inr ⟨q, by rw [hz1, if_neg q]⟩
    have hz3 : 0 ≤ i ∧ i < w → (0 ≤ fa i.toNat ∧ 0 ≤ la i.toNat) ∧ fa i.toNat + la i.toNat ≤ 65536 := fun q => hz i.toNat (by omega)
    refine vx_Vs (As := [.int (iI (i))]) (rest := [.int (iI (k))]) (ci := 3) (q0 := 0) [0, 3] ⟨hx, hb, hml, hown, hts⟩ (c_X3_size l dC dI cB cI m0 mt mi mk mf ml tc n w ks ft pa la hw i hi) (cwV 1 hts (gd_V tw_366 tw_359 tw_360 tw_22 tw_361) rfl rfl rfl (by decide +kernel) ⟨Nat.le_of_ble_eq_true rfl, Nat.le_of_ble_eq_true rfl⟩) hK hP rfl rfl rfl rfl rfl hl.1 rfl (Nat.le_of_ble_eq_true rfl) dX3_byteOf_7 ⟨Nat.zero_le _, Nat.zero_le _⟩ (fun r hr => ?_)
    obtain rfl : r = iI (if 0 ≤ i ∧ i < w then la i.toNat else -1) := hr
    rw [← hz1]
    refine lx_icmp_ge (a := k) (b := z) (tgt := 33) hx hb dX3_byteOf_10 (by decide) (by omega) (by by_cases q : 0 ≤ i ∧ i < w; have := hz3 q; omega; omega) (fun cq2 => ?_) (fun cq2 => ?_)
    · refine lv_iconst (v := iI (-1)) hx hb dX3_byteOf_33 rfl ?_
      exact W.iret (v := iI (-1)) hx hb hr (fun t ht hW => ⟨iI (-1), rfl, by rw [if_neg (by omega)], ht⟩) (fun _ h => by cases h) dX3_byteOf_34
    · have hz4 := hz3 (by omega)
      refine lv_aload_n hx hb dX3_byteOf_13 rfl (lv_at hl 0 rfl) ?_
      refine va_get (D := (dC, dI)) (ci := 3) (v := .ref mk) (C := "RequestCutterModel") (T := TX3) (N := 11) hx hb hts (fun w h => List.mem_cons_of_mem _ (inX3 w h)) hown hK hP 0 rfl rfl 2 (by decide) (hts _ (List.mem_cons_of_mem _ tw_268)) (fun _ h9 => h9) rfl dX3_byteOf_14 ?_
      refine lv_aload_n hx hb dX3_byteOf_17 rfl (lv_at hl 0 rfl) ?_
      refine va_get (D := (dC, dI)) (ci := 3) (v := .ref mf) (C := "RequestCutterModel") (T := TX3) (N := 11) hx hb hts (fun w h => List.mem_cons_of_mem _ (inX3 w h)) hown hK hP 0 rfl rfl 3 (by decide) (hts _ (List.mem_cons_of_mem _ tw_269)) (fun _ h9 => h9) rfl dX3_byteOf_18 ?_
      refine lv_iload_n hx hb dX3_byteOf_21 rfl (lv_at hl 1 rfl) ?_
      refine va_iald hx hb hK hP 2 1 rfl rfl (iI_in (by omega)) dX3_byteOf_22 ?_
      refine lx_top (x2 := iI (fa ((i).toNat))) (congrArg (fun k => iI (fa k)) (iI_cl (a := i) (by omega))) ?_
      refine lv_iload_n hx hb dX3_byteOf_23 rfl (lv_at hl 2 rfl) ?_
      refine lx_iadd (a := fa ((i).toNat)) (b := k) hx hb dX3_byteOf_24 ?_
      refine va_bald hx hb hK hP 1 0 rfl rfl (iI_in (by omega)) dX3_byteOf_25 ?_
      refine lx_top (x2 := (kf) (((fa ((i).toNat)) + k).toNat)) (congrArg (kf) (iI_cl (a := (fa ((i).toNat)) + k) (by omega))) ?_
      refine lv_sipush (v := iI (255)) hx hb dX3_byteOf_26 (by decide) ?_
      refine lx_iand255 (x := (kf) (((fa ((i).toNat)) + k).toNat)) hx hb dX3_byteOf_29 ?_
      refine lv_goto (tgt := 34) hx hb dX3_byteOf_30 (by decide) ?_
      exact W.iret (v := iI (bv ((kf) (((fa ((i).toNat)) + k).toNat)))) hx hb hr (fun t ht hW => ⟨iI (bv ((kf) (((fa ((i).toNat)) + k).toNat))), rfl, by rw [if_pos (by omega)], ht⟩) (fun _ h => by cases h) dX3_byteOf_34
set_option maxHeartbeats 4000000 in
set_option maxRecDepth 100000 in
/-- end(n) -/
theorem c_X3_end (l : Launch) (dC : Nat → ClassId) (dI : Nat → Nat → Nat) (cB cI : ClassId) (sz : Nat) (m0 mt mi mk mf ml tc n w ks : Nat) (ft pa : Int) (ht : tc ≤ 10240) (i : Int) (hi : -2147483648 ≤ i ∧ i ≤ 2147483647) : Met l yX3_end wX3_end ({ frames := 0, cells := 0, slots := 0, locals := 0 }) (va_Pc [.ref m0, .int (iI (i))] (vx_B (dC, dI) vwCl [(cB, .byte), (cI, .int)] [(m0, .inr (3, [.ref mt, .ref mi, .ref mk, .ref mf, .ref ml, .int (iI ((tc : Int))), .int (iI ((n : Int))), .int (iI ((w : Int))), .int (iI ((ks : Int))), .int (iI (ft)), .int (iI (pa))]))] sz)) (va_Qi (fun (r : Int32) (u : Nat) => r = iI (if 0 ≤ i ∧ i ≤ (tc : Int) then 1 else 0) ∧ u = (if 0 ≤ i ∧ i ≤ (tc : Int) then i.toNat else tc)) (fun (u : Nat) => vx_E (dC, dI) vwCl [(cB, .byte), (cI, .int)] (va_A [(m0, .inr (3, [.ref mt, .ref mi, .ref mk, .ref mf, .ref ml, .int (iI ((tc : Int))), .int (iI ((n : Int))), .int (iI ((w : Int))), .int (iI ((ks : Int))), .int (iI (ft)), .int (iI (pa))]))] sz) [(m0, .inr (3, [.ref mt, .ref mi, .ref mk, .ref mf, .ref ml, .int (iI ((u : Int))), .int (iI ((n : Int))), .int (iI ((w : Int))), .int (iI ((ks : Int))), .int (iI (ft)), .int (iI (pa))]))]) (va_A [(m0, .inr (3, [.ref mt, .ref mi, .ref mk, .ref mf, .ref ml, .int (iI ((tc : Int))), .int (iI ((n : Int))), .int (iI ((w : Int))), .int (iI ((ks : Int))), .int (iI (ft)), .int (iI (pa))]))] sz)) (0) (0) (va_A [(m0, .inr (3, [.ref mt, .ref mi, .ref mk, .ref mf, .ref ml, .int (iI ((tc : Int))), .int (iI ((n : Int))), .int (iI ((w : Int))), .int (iI ((ks : Int))), .int (iI (ft)), .int (iI (pa))]))] sz) := by
  refine Met.ofW (cc := cX3_end) (maxL := 2) (ret := (some .boolean)) (by decide) rfl ?_
  intro p e s m args below meth c s₁ B hml hv
  obtain ⟨rfl, hsz, hP, hK, hD0⟩ := hv
  have hx := B.exec
  have hb := B.bytes
  have hr := B.returns
  have hts := atoms_spec (ws := wX3_end) B.pre
  have hown : s.vm.findClass "RequestCutterModel" = some m.cls := findClass_of_methodNamed B.named
  have hlocks := B.notSynchronized
  subst hsz
  have hD := hD0.self (sz := s.heap.size)
  generalize hAe : va_A [(m0, .inr (3, [.ref mt, .ref mi, .ref mk, .ref mf, .ref ml, .int (iI ((tc : Int))), .int (iI ((n : Int))), .int (iI ((w : Int))), .int (iI ((ks : Int))), .int (iI (ft)), .int (iI (pa))]))] s.heap.size = A at hD ⊢
  have hA : ∀ q : Nat, s.heap.size ≤ q → A q := fun q h => by rw [← hAe]; exact Or.inr h
  have hS : va_S A s.heap s.heap [] := va_S.rf
  have hP : va_P (dC, dI) vwCl [(m0, .inr (3, [.ref mt, .ref mi, .ref mk, .ref mf, .ref ml, .int (iI ((tc : Int))), .int (iI ((n : Int))), .int (iI ((w : Int))), .int (iI ((ks : Int))), .int (iI (ft)), .int (iI (pa))]))] s.heap := hP
  have hl := lv_entry ([.ref m0, .int (iI (i))]) (n := 2) (Nat.le_of_ble_eq_true rfl)
  rw [lg_entry_eq]
  generalize (lg_sl ([.ref m0, .int (iI (i))]) ++ List.replicate (2 - (lg_sl ([.ref m0, .int (iI (i))])).length) Slot.unset).toArray = ls at hl ⊢
  have hl : lv_has ls 2 [(0, .ref m0), (1, .int (iI (i)))] := hl
  refine lv_iload_n hx hb dX3_end_0 rfl (lv_at hl 1 rfl) ?_
  refine lx_if_lt (a := i) (tgt := 12) hx hb dX3_end_1 (by decide) (by omega) (fun cq1 => ?_) (fun cq1 => ?_)
  · refine lv_iconst (v := iI (0)) hx hb dX3_end_12 rfl ?_
    exact W.zret (v := iI (0)) hx hb hr (by rfl) (fun t ht hW => ⟨⟨iI (0), tc, rfl, ⟨by rw [if_neg (by omega)], by rw [if_neg (by omega)]⟩, by rw [ht]; exact hP, va_K.moved hW.alike hK, hD⟩, hS.F ht⟩) hS.2.2 dX3_end_13
  · refine lv_iload_n hx hb dX3_end_4 rfl (lv_at hl 1 rfl) ?_
    refine lv_aload_n hx hb dX3_end_5 rfl (lv_at hl 0 rfl) ?_
    refine va_get (D := (dC, dI)) (ci := 3) (v := .int (iI ((tc : Int)))) (C := "RequestCutterModel") (T := TX3) (N := 11) hx hb hts (fun w h => List.mem_cons_of_mem _ (inX3 w h)) hown hK hP 0 rfl rfl 5 (by decide) (hts _ (List.mem_cons_of_mem _ tw_271)) (fun _ h9 => h9) rfl dX3_end_6 ?_
    refine lx_icmp_le (a := i) (b := (tc : Int)) (tgt := 14) hx hb dX3_end_9 (by decide) (by omega) (by omega) (fun cq2 => ?_) (fun cq2 => ?_)
    · refine lv_aload_n hx hb dX3_end_14 rfl (lv_at hl 0 rfl) ?_
      refine lv_iload_n hx hb dX3_end_15 rfl (lv_at hl 1 rfl) ?_
      refine lx_top (x2 := iI (i.toNat : Int)) (congrArg iI (by omega)) ?_
      refine va_put (D := (dC, dI)) (ci := 3) (v := .int (iI ((i.toNat : Int)))) (ty := .int) (C := "RequestCutterModel") (T := TX3) (N := 11) hx hb hts (fun w h => List.mem_cons_of_mem _ (inX3 w h)) tyX3 tyX3_ok nmX3 hown hK hP hD hS 0 rfl rfl 5 (by decide) (hts _ (List.mem_cons_of_mem _ tw_271)) (fun _ h9 => h9) rfl (by decide +kernel) rfl rfl (Nat.le_of_ble_eq_true rfl) dX3_end_16 (fun H locs hP hD hS => ?_)
      have hP : va_P (dC, dI) vwCl [(m0, .inr (3, [.ref mt, .ref mi, .ref mk, .ref mf, .ref ml, .int (iI ((i.toNat : Int))), .int (iI ((n : Int))), .int (iI ((w : Int))), .int (iI ((ks : Int))), .int (iI (ft)), .int (iI (pa))]))] H := hP
      have hD : va_D A [(m0, .inr (3, [.ref mt, .ref mi, .ref mk, .ref mf, .ref ml, .int (iI ((i.toNat : Int))), .int (iI ((n : Int))), .int (iI ((w : Int))), .int (iI ((ks : Int))), .int (iI (ft)), .int (iI (pa))]))] := hD
      refine lv_iconst (v := iI (1)) hx hb dX3_end_19 rfl ?_
      exact W.zret (v := iI (1)) hx hb hr (by rfl) (fun t ht hW => ⟨⟨iI (1), i.toNat, rfl, ⟨by rw [if_pos (by omega)], by rw [if_pos (by omega)]⟩, by rw [ht]; exact hP, va_K.moved hW.alike hK, hD⟩, hS.F ht⟩) hS.2.2 dX3_end_20
    · refine lv_iconst (v := iI (0)) hx hb dX3_end_12 rfl ?_
      exact W.zret (v := iI (0)) hx hb hr (by rfl) (fun t ht hW => ⟨⟨iI (0), tc, rfl, ⟨by rw [if_neg (by omega)], by rw [if_neg (by omega)]⟩, by rw [ht]; exact hP, va_K.moved hW.alike hK, hD⟩, hS.F ht⟩) hS.2.2 dX3_end_13
set_option maxHeartbeats 4000000 in
set_option maxRecDepth 100000 in
/-- lay(v) -/
theorem c_X3_lay (l : Launch) (dC : Nat → ClassId) (dI : Nat → Nat → Nat) (cB cI : ClassId) (sz : Nat) (m0 mt mi mk mf ml tc n w ks : Nat) (ft pa : Int) (tf : Nat → Int32) (ht : tc + 4 ≤ 10240) (hfit : sb_Fit tf) (x : Int32) : Met l yX3_lay wX3_lay ({ frames := 0, cells := 0, slots := 0, locals := 0 }) (va_Pc [.ref m0, .int (x)] (vx_B (dC, dI) vwCl [(cB, .byte), (cI, .int)] [(m0, .inr (3, [.ref mt, .ref mi, .ref mk, .ref mf, .ref ml, .int (iI ((tc : Int))), .int (iI ((n : Int))), .int (iI ((w : Int))), .int (iI ((ks : Int))), .int (iI (ft)), .int (iI (pa))])), (mt, .inl (cB, 10240, .inl (tf)))] sz)) (va_Qv (fun (u : Nat → Int32) => sb_Fit u ∧ (∀ j, j < tc → u j = tf j) ∧ u tc = nb x 24 ∧ u (tc + 1) = nb x 16 ∧ u (tc + 2) = nb x 8 ∧ u (tc + 3) = nb x 0) (fun (u : Nat → Int32) => vx_E (dC, dI) vwCl [(cB, .byte), (cI, .int)] (va_A [(m0, .inr (3, [.ref mt, .ref mi, .ref mk, .ref mf, .ref ml, .int (iI ((tc : Int))), .int (iI ((n : Int))), .int (iI ((w : Int))), .int (iI ((ks : Int))), .int (iI (ft)), .int (iI (pa))])), (mt, .inl (cB, 10240, .inl (tf)))] sz) [(m0, .inr (3, [.ref mt, .ref mi, .ref mk, .ref mf, .ref ml, .int (iI (((tc + 4 : Nat) : Int))), .int (iI ((n : Int))), .int (iI ((w : Int))), .int (iI ((ks : Int))), .int (iI (ft)), .int (iI (pa))])), (mt, .inl (cB, 10240, .inl (u)))]) (va_A [(m0, .inr (3, [.ref mt, .ref mi, .ref mk, .ref mf, .ref ml, .int (iI ((tc : Int))), .int (iI ((n : Int))), .int (iI ((w : Int))), .int (iI ((ks : Int))), .int (iI (ft)), .int (iI (pa))])), (mt, .inl (cB, 10240, .inl (tf)))] sz)) (0) (0) (va_A [(m0, .inr (3, [.ref mt, .ref mi, .ref mk, .ref mf, .ref ml, .int (iI ((tc : Int))), .int (iI ((n : Int))), .int (iI ((w : Int))), .int (iI ((ks : Int))), .int (iI (ft)), .int (iI (pa))])), (mt, .inl (cB, 10240, .inl (tf)))] sz) := by
  refine Met.ofW (cc := cX3_lay) (maxL := 3) (ret := none) (by decide) rfl ?_
  intro p e s m args below meth c s₁ B hml hv
  obtain ⟨rfl, hsz, hP, hK, hD0⟩ := hv
  have hx := B.exec
  have hb := B.bytes
  have hr := B.returns
  have hts := atoms_spec (ws := wX3_lay) B.pre
  have hown : s.vm.findClass "RequestCutterModel" = some m.cls := findClass_of_methodNamed B.named
  have hlocks := B.notSynchronized
  subst hsz
  have hD := hD0.self (sz := s.heap.size)
  generalize hAe : va_A [(m0, .inr (3, [.ref mt, .ref mi, .ref mk, .ref mf, .ref ml, .int (iI ((tc : Int))), .int (iI ((n : Int))), .int (iI ((w : Int))), .int (iI ((ks : Int))), .int (iI (ft)), .int (iI (pa))])), (mt, .inl (cB, 10240, .inl (tf)))] s.heap.size = A at hD ⊢
  have hA : ∀ q : Nat, s.heap.size ≤ q → A q := fun q h => by rw [← hAe]; exact Or.inr h
  have hS : va_S A s.heap s.heap [] := va_S.rf
  have hP : va_P (dC, dI) vwCl [(m0, .inr (3, [.ref mt, .ref mi, .ref mk, .ref mf, .ref ml, .int (iI ((tc : Int))), .int (iI ((n : Int))), .int (iI ((w : Int))), .int (iI ((ks : Int))), .int (iI (ft)), .int (iI (pa))])), (mt, .inl (cB, 10240, .inl (tf)))] s.heap := hP
  have hl := lv_entry ([.ref m0, .int (x)]) (n := 3) (Nat.le_of_ble_eq_true rfl)
  rw [lg_entry_eq]
  generalize (lg_sl ([.ref m0, .int (x)]) ++ List.replicate (3 - (lg_sl ([.ref m0, .int (x)])).length) Slot.unset).toArray = ls at hl ⊢
  have hl : lv_has ls 3 [(0, .ref m0), (1, .int (x))] := hl
  refine lv_bipush (v := iI (24)) hx hb dX3_lay_0 (by decide) ?_
  refine lv_istore_n (lv' := [(2, .int (iI (24))), (0, .ref m0), (1, .int (x))]) hx hb dX3_lay_2 rfl hl (by decide) rfl (fun ls hl => ?_)
  refine lv_iload_n hx hb dX3_lay_3 rfl (lv_at hl 0 rfl) ?_
  refine lx_if_lt (a := 24) (tgt := 36) hx hb dX3_lay_4 (by decide) (by omega) (fun cq1 => ?_) (fun cq1 => ?_)
  · exact absurd cq1 (by omega)
  · refine lv_aload_n hx hb dX3_lay_7 rfl (lv_at hl 1 rfl) ?_
    refine va_get (D := (dC, dI)) (ci := 3) (v := .ref mt) (C := "RequestCutterModel") (T := TX3) (N := 11) hx hb hts (fun w h => List.mem_cons_of_mem _ (inX3 w h)) hown hK hP 0 rfl rfl 0 (by decide) (hts _ (List.mem_cons_of_mem _ tw_266)) (fun _ h9 => h9) rfl dX3_lay_8 ?_
    refine lv_aload_n hx hb dX3_lay_11 rfl (lv_at hl 1 rfl) ?_
    refine va_get (D := (dC, dI)) (ci := 3) (v := .int (iI ((tc : Int)))) (C := "RequestCutterModel") (T := TX3) (N := 11) hx hb hts (fun w h => List.mem_cons_of_mem _ (inX3 w h)) hown hK hP 0 rfl rfl 5 (by decide) (hts _ (List.mem_cons_of_mem _ tw_271)) (fun _ h9 => h9) rfl dX3_lay_12 ?_
    refine lv_iload_n hx hb dX3_lay_15 rfl (lv_at hl 2 rfl) ?_
    refine lv_iload_n hx hb dX3_lay_16 rfl (lv_at hl 0 rfl) ?_
    refine lv_ishr (x := x) (y := iI (24)) hx hb dX3_lay_17 ?_
    refine lv_i2b (v := nb (x) (24)) hx hb dX3_lay_18 (nb_s (x) (24) (by omega)) ?_
    refine lx_bast (x := nb (x) (24)) (v := nb (x) (24)) (i := (tc : Int)) hx hb hK hP hD hS 1 0 rfl rfl (tc) (by omega) (by omega) (nb_nar _ _) dX3_lay_19 (fun H locs hP hD hS => ?_)
    have hP : va_P (dC, dI) vwCl [(m0, .inr (3, [.ref mt, .ref mi, .ref mk, .ref mf, .ref ml, .int (iI ((tc : Int))), .int (iI ((n : Int))), .int (iI ((w : Int))), .int (iI ((ks : Int))), .int (iI (ft)), .int (iI (pa))])), (mt, .inl (cB, 10240, .inl (upd (tf) (tc) (nb (x) (24)))))] H := hP
    have hD : va_D A [(m0, .inr (3, [.ref mt, .ref mi, .ref mk, .ref mf, .ref ml, .int (iI ((tc : Int))), .int (iI ((n : Int))), .int (iI ((w : Int))), .int (iI ((ks : Int))), .int (iI (ft)), .int (iI (pa))])), (mt, .inl (cB, 10240, .inl (upd (tf) (tc) (nb (x) (24)))))] := hD
    refine lv_aload_n hx hb dX3_lay_20 rfl (lv_at hl 1 rfl) ?_
    refine lv_dup hx hb dX3_lay_21 rfl ?_
    refine va_get (D := (dC, dI)) (ci := 3) (v := .int (iI ((tc : Int)))) (C := "RequestCutterModel") (T := TX3) (N := 11) hx hb hts (fun w h => List.mem_cons_of_mem _ (inX3 w h)) hown hK hP 0 rfl rfl 5 (by decide) (hts _ (List.mem_cons_of_mem _ tw_271)) (fun _ h9 => h9) rfl dX3_lay_22 ?_
    refine lv_iconst (v := iI (1)) hx hb dX3_lay_25 rfl ?_
    refine lx_iadd (a := (tc : Int)) (b := 1) hx hb dX3_lay_26 ?_
    refine lx_top (x2 := iI ((tc + 1 : Nat) : Int)) (congrArg iI (by omega)) ?_
    refine va_put (D := (dC, dI)) (ci := 3) (v := .int (iI (((tc + 1 : Nat) : Int)))) (ty := .int) (C := "RequestCutterModel") (T := TX3) (N := 11) hx hb hts (fun w h => List.mem_cons_of_mem _ (inX3 w h)) tyX3 tyX3_ok nmX3 hown hK hP hD hS 0 rfl rfl 5 (by decide) (hts _ (List.mem_cons_of_mem _ tw_271)) (fun _ h9 => h9) rfl (by decide +kernel) rfl rfl (Nat.le_of_ble_eq_true rfl) dX3_lay_27 (fun H locs hP hD hS => ?_)
    have hP : va_P (dC, dI) vwCl [(m0, .inr (3, [.ref mt, .ref mi, .ref mk, .ref mf, .ref ml, .int (iI (((tc + 1 : Nat) : Int))), .int (iI ((n : Int))), .int (iI ((w : Int))), .int (iI ((ks : Int))), .int (iI (ft)), .int (iI (pa))])), (mt, .inl (cB, 10240, .inl (upd (tf) (tc) (nb (x) (24)))))] H := hP
    have hD : va_D A [(m0, .inr (3, [.ref mt, .ref mi, .ref mk, .ref mf, .ref ml, .int (iI (((tc + 1 : Nat) : Int))), .int (iI ((n : Int))), .int (iI ((w : Int))), .int (iI ((ks : Int))), .int (iI (ft)), .int (iI (pa))])), (mt, .inl (cB, 10240, .inl (upd (tf) (tc) (nb (x) (24)))))] := hD
    refine lv_iinc (v := iI (24 + (-8))) (lv' := [(2, .int (iI (24 + (-8)))), (0, .ref m0), (1, .int (x))]) hx hb dX3_lay_30 hl (k := 0) rfl (iI_add _ _) (by decide) rfl (fun ls hl => ?_)
    refine lv_goto (tgt := 3) hx hb dX3_lay_33 (by decide) ?_
    refine lv_iload_n hx hb dX3_lay_3 rfl (lv_at hl 0 rfl) ?_
    refine lx_if_lt (a := 24 + (-8)) (tgt := 36) hx hb dX3_lay_4 (by decide) (by omega) (fun cq2 => ?_) (fun cq2 => ?_)
    · exact absurd cq2 (by omega)
    · refine lv_aload_n hx hb dX3_lay_7 rfl (lv_at hl 1 rfl) ?_
      refine va_get (D := (dC, dI)) (ci := 3) (v := .ref mt) (C := "RequestCutterModel") (T := TX3) (N := 11) hx hb hts (fun w h => List.mem_cons_of_mem _ (inX3 w h)) hown hK hP 0 rfl rfl 0 (by decide) (hts _ (List.mem_cons_of_mem _ tw_266)) (fun _ h9 => h9) rfl dX3_lay_8 ?_
      refine lv_aload_n hx hb dX3_lay_11 rfl (lv_at hl 1 rfl) ?_
      refine va_get (D := (dC, dI)) (ci := 3) (v := .int (iI (((tc + 1 : Nat) : Int)))) (C := "RequestCutterModel") (T := TX3) (N := 11) hx hb hts (fun w h => List.mem_cons_of_mem _ (inX3 w h)) hown hK hP 0 rfl rfl 5 (by decide) (hts _ (List.mem_cons_of_mem _ tw_271)) (fun _ h9 => h9) rfl dX3_lay_12 ?_
      refine lv_iload_n hx hb dX3_lay_15 rfl (lv_at hl 2 rfl) ?_
      refine lv_iload_n hx hb dX3_lay_16 rfl (lv_at hl 0 rfl) ?_
      refine lv_ishr (x := x) (y := iI (24 + (-8))) hx hb dX3_lay_17 ?_
      refine lv_i2b (v := nb (x) (24 + (-8))) hx hb dX3_lay_18 (nb_s (x) (24 + (-8)) (by omega)) ?_
      refine lx_bast (x := nb (x) (24 + (-8))) (v := nb (x) (24 + (-8))) (i := ((tc + 1 : Nat) : Int)) hx hb hK hP hD hS 1 0 rfl rfl (tc + 1) (by omega) (by omega) (nb_nar _ _) dX3_lay_19 (fun H locs hP hD hS => ?_)
      have hP : va_P (dC, dI) vwCl [(m0, .inr (3, [.ref mt, .ref mi, .ref mk, .ref mf, .ref ml, .int (iI (((tc + 1 : Nat) : Int))), .int (iI ((n : Int))), .int (iI ((w : Int))), .int (iI ((ks : Int))), .int (iI (ft)), .int (iI (pa))])), (mt, .inl (cB, 10240, .inl (upd (upd (tf) (tc) (nb (x) (24))) (tc + 1) (nb (x) (24 + (-8))))))] H := hP
      have hD : va_D A [(m0, .inr (3, [.ref mt, .ref mi, .ref mk, .ref mf, .ref ml, .int (iI (((tc + 1 : Nat) : Int))), .int (iI ((n : Int))), .int (iI ((w : Int))), .int (iI ((ks : Int))), .int (iI (ft)), .int (iI (pa))])), (mt, .inl (cB, 10240, .inl (upd (upd (tf) (tc) (nb (x) (24))) (tc + 1) (nb (x) (24 + (-8))))))] := hD
      refine lv_aload_n hx hb dX3_lay_20 rfl (lv_at hl 1 rfl) ?_
      refine lv_dup hx hb dX3_lay_21 rfl ?_
      refine va_get (D := (dC, dI)) (ci := 3) (v := .int (iI (((tc + 1 : Nat) : Int)))) (C := "RequestCutterModel") (T := TX3) (N := 11) hx hb hts (fun w h => List.mem_cons_of_mem _ (inX3 w h)) hown hK hP 0 rfl rfl 5 (by decide) (hts _ (List.mem_cons_of_mem _ tw_271)) (fun _ h9 => h9) rfl dX3_lay_22 ?_
      refine lv_iconst (v := iI (1)) hx hb dX3_lay_25 rfl ?_
      refine lx_iadd (a := ((tc + 1 : Nat) : Int)) (b := 1) hx hb dX3_lay_26 ?_
      refine lx_top (x2 := iI ((tc + 2 : Nat) : Int)) (congrArg iI (by omega)) ?_
      refine va_put (D := (dC, dI)) (ci := 3) (v := .int (iI (((tc + 2 : Nat) : Int)))) (ty := .int) (C := "RequestCutterModel") (T := TX3) (N := 11) hx hb hts (fun w h => List.mem_cons_of_mem _ (inX3 w h)) tyX3 tyX3_ok nmX3 hown hK hP hD hS 0 rfl rfl 5 (by decide) (hts _ (List.mem_cons_of_mem _ tw_271)) (fun _ h9 => h9) rfl (by decide +kernel) rfl rfl (Nat.le_of_ble_eq_true rfl) dX3_lay_27 (fun H locs hP hD hS => ?_)
      have hP : va_P (dC, dI) vwCl [(m0, .inr (3, [.ref mt, .ref mi, .ref mk, .ref mf, .ref ml, .int (iI (((tc + 2 : Nat) : Int))), .int (iI ((n : Int))), .int (iI ((w : Int))), .int (iI ((ks : Int))), .int (iI (ft)), .int (iI (pa))])), (mt, .inl (cB, 10240, .inl (upd (upd (tf) (tc) (nb (x) (24))) (tc + 1) (nb (x) (24 + (-8))))))] H := hP
      have hD : va_D A [(m0, .inr (3, [.ref mt, .ref mi, .ref mk, .ref mf, .ref ml, .int (iI (((tc + 2 : Nat) : Int))), .int (iI ((n : Int))), .int (iI ((w : Int))), .int (iI ((ks : Int))), .int (iI (ft)), .int (iI (pa))])), (mt, .inl (cB, 10240, .inl (upd (upd (tf) (tc) (nb (x) (24))) (tc + 1) (nb (x) (24 + (-8))))))] := hD
      refine lv_iinc (v := iI (24 + (-8) + (-8))) (lv' := [(2, .int (iI (24 + (-8) + (-8)))), (0, .ref m0), (1, .int (x))]) hx hb dX3_lay_30 hl (k := 0) rfl (iI_add _ _) (by decide) rfl (fun ls hl => ?_)
      refine lv_goto (tgt := 3) hx hb dX3_lay_33 (by decide) ?_
      refine lv_iload_n hx hb dX3_lay_3 rfl (lv_at hl 0 rfl) ?_
      refine lx_if_lt (a := 24 + (-8) + (-8)) (tgt := 36) hx hb dX3_lay_4 (by decide) (by omega) (fun cq3 => ?_) (fun cq3 => ?_)
      · exact absurd cq3 (by omega)
      · refine lv_aload_n hx hb dX3_lay_7 rfl (lv_at hl 1 rfl) ?_
        refine va_get (D := (dC, dI)) (ci := 3) (v := .ref mt) (C := "RequestCutterModel") (T := TX3) (N := 11) hx hb hts (fun w h => List.mem_cons_of_mem _ (inX3 w h)) hown hK hP 0 rfl rfl 0 (by decide) (hts _ (List.mem_cons_of_mem _ tw_266)) (fun _ h9 => h9) rfl dX3_lay_8 ?_
        refine lv_aload_n hx hb dX3_lay_11 rfl (lv_at hl 1 rfl) ?_
        refine va_get (D := (dC, dI)) (ci := 3) (v := .int (iI (((tc + 2 : Nat) : Int)))) (C := "RequestCutterModel") (T := TX3) (N := 11) hx hb hts (fun w h => List.mem_cons_of_mem _ (inX3 w h)) hown hK hP 0 rfl rfl 5 (by decide) (hts _ (List.mem_cons_of_mem _ tw_271)) (fun _ h9 => h9) rfl dX3_lay_12 ?_
        refine lv_iload_n hx hb dX3_lay_15 rfl (lv_at hl 2 rfl) ?_
        refine lv_iload_n hx hb dX3_lay_16 rfl (lv_at hl 0 rfl) ?_
        refine lv_ishr (x := x) (y := iI (24 + (-8) + (-8))) hx hb dX3_lay_17 ?_
        refine lv_i2b (v := nb (x) (24 + (-8) + (-8))) hx hb dX3_lay_18 (nb_s (x) (24 + (-8) + (-8)) (by omega)) ?_
        refine lx_bast (x := nb (x) (24 + (-8) + (-8))) (v := nb (x) (24 + (-8) + (-8))) (i := ((tc + 2 : Nat) : Int)) hx hb hK hP hD hS 1 0 rfl rfl (tc + 2) (by omega) (by omega) (nb_nar _ _) dX3_lay_19 (fun H locs hP hD hS => ?_)
        have hP : va_P (dC, dI) vwCl [(m0, .inr (3, [.ref mt, .ref mi, .ref mk, .ref mf, .ref ml, .int (iI (((tc + 2 : Nat) : Int))), .int (iI ((n : Int))), .int (iI ((w : Int))), .int (iI ((ks : Int))), .int (iI (ft)), .int (iI (pa))])), (mt, .inl (cB, 10240, .inl (upd (upd (upd (tf) (tc) (nb (x) (24))) (tc + 1) (nb (x) (24 + (-8)))) (tc + 2) (nb (x) (24 + (-8) + (-8))))))] H := hP
        have hD : va_D A [(m0, .inr (3, [.ref mt, .ref mi, .ref mk, .ref mf, .ref ml, .int (iI (((tc + 2 : Nat) : Int))), .int (iI ((n : Int))), .int (iI ((w : Int))), .int (iI ((ks : Int))), .int (iI (ft)), .int (iI (pa))])), (mt, .inl (cB, 10240, .inl (upd (upd (upd (tf) (tc) (nb (x) (24))) (tc + 1) (nb (x) (24 + (-8)))) (tc + 2) (nb (x) (24 + (-8) + (-8))))))] := hD
        refine lv_aload_n hx hb dX3_lay_20 rfl (lv_at hl 1 rfl) ?_
        refine lv_dup hx hb dX3_lay_21 rfl ?_
        refine va_get (D := (dC, dI)) (ci := 3) (v := .int (iI (((tc + 2 : Nat) : Int)))) (C := "RequestCutterModel") (T := TX3) (N := 11) hx hb hts (fun w h => List.mem_cons_of_mem _ (inX3 w h)) hown hK hP 0 rfl rfl 5 (by decide) (hts _ (List.mem_cons_of_mem _ tw_271)) (fun _ h9 => h9) rfl dX3_lay_22 ?_
        refine lv_iconst (v := iI (1)) hx hb dX3_lay_25 rfl ?_
        refine lx_iadd (a := ((tc + 2 : Nat) : Int)) (b := 1) hx hb dX3_lay_26 ?_
        refine lx_top (x2 := iI ((tc + 3 : Nat) : Int)) (congrArg iI (by omega)) ?_
        refine va_put (D := (dC, dI)) (ci := 3) (v := .int (iI (((tc + 3 : Nat) : Int)))) (ty := .int) (C := "RequestCutterModel") (T := TX3) (N := 11) hx hb hts (fun w h => List.mem_cons_of_mem _ (inX3 w h)) tyX3 tyX3_ok nmX3 hown hK hP hD hS 0 rfl rfl 5 (by decide) (hts _ (List.mem_cons_of_mem _ tw_271)) (fun _ h9 => h9) rfl (by decide +kernel) rfl rfl (Nat.le_of_ble_eq_true rfl) dX3_lay_27 (fun H locs hP hD hS => ?_)
        have hP : va_P (dC, dI) vwCl [(m0, .inr (3, [.ref mt, .ref mi, .ref mk, .ref mf, .ref ml, .int (iI (((tc + 3 : Nat) : Int))), .int (iI ((n : Int))), .int (iI ((w : Int))), .int (iI ((ks : Int))), .int (iI (ft)), .int (iI (pa))])), (mt, .inl (cB, 10240, .inl (upd (upd (upd (tf) (tc) (nb (x) (24))) (tc + 1) (nb (x) (24 + (-8)))) (tc + 2) (nb (x) (24 + (-8) + (-8))))))] H := hP
        have hD : va_D A [(m0, .inr (3, [.ref mt, .ref mi, .ref mk, .ref mf, .ref ml, .int (iI (((tc + 3 : Nat) : Int))), .int (iI ((n : Int))), .int (iI ((w : Int))), .int (iI ((ks : Int))), .int (iI (ft)), .int (iI (pa))])), (mt, .inl (cB, 10240, .inl (upd (upd (upd (tf) (tc) (nb (x) (24))) (tc + 1) (nb (x) (24 + (-8)))) (tc + 2) (nb (x) (24 + (-8) + (-8))))))] := hD
        refine lv_iinc (v := iI (24 + (-8) + (-8) + (-8))) (lv' := [(2, .int (iI (24 + (-8) + (-8) + (-8)))), (0, .ref m0), (1, .int (x))]) hx hb dX3_lay_30 hl (k := 0) rfl (iI_add _ _) (by decide) rfl (fun ls hl => ?_)
        refine lv_goto (tgt := 3) hx hb dX3_lay_33 (by decide) ?_
        refine lv_iload_n hx hb dX3_lay_3 rfl (lv_at hl 0 rfl) ?_
        refine lx_if_lt (a := 24 + (-8) + (-8) + (-8)) (tgt := 36) hx hb dX3_lay_4 (by decide) (by omega) (fun cq4 => ?_) (fun cq4 => ?_)
        · exact absurd cq4 (by omega)
        · refine lv_aload_n hx hb dX3_lay_7 rfl (lv_at hl 1 rfl) ?_
          refine va_get (D := (dC, dI)) (ci := 3) (v := .ref mt) (C := "RequestCutterModel") (T := TX3) (N := 11) hx hb hts (fun w h => List.mem_cons_of_mem _ (inX3 w h)) hown hK hP 0 rfl rfl 0 (by decide) (hts _ (List.mem_cons_of_mem _ tw_266)) (fun _ h9 => h9) rfl dX3_lay_8 ?_
          refine lv_aload_n hx hb dX3_lay_11 rfl (lv_at hl 1 rfl) ?_
          refine va_get (D := (dC, dI)) (ci := 3) (v := .int (iI (((tc + 3 : Nat) : Int)))) (C := "RequestCutterModel") (T := TX3) (N := 11) hx hb hts (fun w h => List.mem_cons_of_mem _ (inX3 w h)) hown hK hP 0 rfl rfl 5 (by decide) (hts _ (List.mem_cons_of_mem _ tw_271)) (fun _ h9 => h9) rfl dX3_lay_12 ?_
          refine lv_iload_n hx hb dX3_lay_15 rfl (lv_at hl 2 rfl) ?_
          refine lv_iload_n hx hb dX3_lay_16 rfl (lv_at hl 0 rfl) ?_
          refine lv_ishr (x := x) (y := iI (24 + (-8) + (-8) + (-8))) hx hb dX3_lay_17 ?_
          refine lv_i2b (v := nb (x) (24 + (-8) + (-8) + (-8))) hx hb dX3_lay_18 (nb_s (x) (24 + (-8) + (-8) + (-8)) (by omega)) ?_
          refine lx_bast (x := nb (x) (24 + (-8) + (-8) + (-8))) (v := nb (x) (24 + (-8) + (-8) + (-8))) (i := ((tc + 3 : Nat) : Int)) hx hb hK hP hD hS 1 0 rfl rfl (tc + 3) (by omega) (by omega) (nb_nar _ _) dX3_lay_19 (fun H locs hP hD hS => ?_)
          have hP : va_P (dC, dI) vwCl [(m0, .inr (3, [.ref mt, .ref mi, .ref mk, .ref mf, .ref ml, .int (iI (((tc + 3 : Nat) : Int))), .int (iI ((n : Int))), .int (iI ((w : Int))), .int (iI ((ks : Int))), .int (iI (ft)), .int (iI (pa))])), (mt, .inl (cB, 10240, .inl (upd (upd (upd (upd (tf) (tc) (nb (x) (24))) (tc + 1) (nb (x) (24 + (-8)))) (tc + 2) (nb (x) (24 + (-8) + (-8)))) (tc + 3) (nb (x) (24 + (-8) + (-8) + (-8))))))] H := hP
          have hD : va_D A [(m0, .inr (3, [.ref mt, .ref mi, .ref mk, .ref mf, .ref ml, .int (iI (((tc + 3 : Nat) : Int))), .int (iI ((n : Int))), .int (iI ((w : Int))), .int (iI ((ks : Int))), .int (iI (ft)), .int (iI (pa))])), (mt, .inl (cB, 10240, .inl (upd (upd (upd (upd (tf) (tc) (nb (x) (24))) (tc + 1) (nb (x) (24 + (-8)))) (tc + 2) (nb (x) (24 + (-8) + (-8)))) (tc + 3) (nb (x) (24 + (-8) + (-8) + (-8))))))] := hD
          refine lv_aload_n hx hb dX3_lay_20 rfl (lv_at hl 1 rfl) ?_
          refine lv_dup hx hb dX3_lay_21 rfl ?_
          refine va_get (D := (dC, dI)) (ci := 3) (v := .int (iI (((tc + 3 : Nat) : Int)))) (C := "RequestCutterModel") (T := TX3) (N := 11) hx hb hts (fun w h => List.mem_cons_of_mem _ (inX3 w h)) hown hK hP 0 rfl rfl 5 (by decide) (hts _ (List.mem_cons_of_mem _ tw_271)) (fun _ h9 => h9) rfl dX3_lay_22 ?_
          refine lv_iconst (v := iI (1)) hx hb dX3_lay_25 rfl ?_
          refine lx_iadd (a := ((tc + 3 : Nat) : Int)) (b := 1) hx hb dX3_lay_26 ?_
          refine lx_top (x2 := iI ((tc + 4 : Nat) : Int)) (congrArg iI (by omega)) ?_
          refine va_put (D := (dC, dI)) (ci := 3) (v := .int (iI (((tc + 4 : Nat) : Int)))) (ty := .int) (C := "RequestCutterModel") (T := TX3) (N := 11) hx hb hts (fun w h => List.mem_cons_of_mem _ (inX3 w h)) tyX3 tyX3_ok nmX3 hown hK hP hD hS 0 rfl rfl 5 (by decide) (hts _ (List.mem_cons_of_mem _ tw_271)) (fun _ h9 => h9) rfl (by decide +kernel) rfl rfl (Nat.le_of_ble_eq_true rfl) dX3_lay_27 (fun H locs hP hD hS => ?_)
          have hP : va_P (dC, dI) vwCl [(m0, .inr (3, [.ref mt, .ref mi, .ref mk, .ref mf, .ref ml, .int (iI (((tc + 4 : Nat) : Int))), .int (iI ((n : Int))), .int (iI ((w : Int))), .int (iI ((ks : Int))), .int (iI (ft)), .int (iI (pa))])), (mt, .inl (cB, 10240, .inl (upd (upd (upd (upd (tf) (tc) (nb (x) (24))) (tc + 1) (nb (x) (24 + (-8)))) (tc + 2) (nb (x) (24 + (-8) + (-8)))) (tc + 3) (nb (x) (24 + (-8) + (-8) + (-8))))))] H := hP
          have hD : va_D A [(m0, .inr (3, [.ref mt, .ref mi, .ref mk, .ref mf, .ref ml, .int (iI (((tc + 4 : Nat) : Int))), .int (iI ((n : Int))), .int (iI ((w : Int))), .int (iI ((ks : Int))), .int (iI (ft)), .int (iI (pa))])), (mt, .inl (cB, 10240, .inl (upd (upd (upd (upd (tf) (tc) (nb (x) (24))) (tc + 1) (nb (x) (24 + (-8)))) (tc + 2) (nb (x) (24 + (-8) + (-8)))) (tc + 3) (nb (x) (24 + (-8) + (-8) + (-8))))))] := hD
          refine lv_iinc (v := iI (24 + (-8) + (-8) + (-8) + (-8))) (lv' := [(2, .int (iI (24 + (-8) + (-8) + (-8) + (-8)))), (0, .ref m0), (1, .int (x))]) hx hb dX3_lay_30 hl (k := 0) rfl (iI_add _ _) (by decide) rfl (fun ls hl => ?_)
          refine lv_goto (tgt := 3) hx hb dX3_lay_33 (by decide) ?_
          refine lv_iload_n hx hb dX3_lay_3 rfl (lv_at hl 0 rfl) ?_
          refine lx_if_lt (a := 24 + (-8) + (-8) + (-8) + (-8)) (tgt := 36) hx hb dX3_lay_4 (by decide) (by omega) (fun cq5 => ?_) (fun cq5 => ?_)
          · exact W.vret hx hb hr (fun t ht hW => ⟨⟨(upd (upd (upd (upd (tf) (tc) (nb (x) (24))) (tc + 1) (nb (x) (24 + (-8)))) (tc + 2) (nb (x) (24 + (-8) + (-8)))) (tc + 3) (nb (x) (24 + (-8) + (-8) + (-8)))), rfl, ⟨sb_fitU (sb_fitU (sb_fitU (sb_fitU hfit (nb_fit _ _)) (nb_fit _ _)) (nb_fit _ _)) (nb_fit _ _), fun j hj => by simp only [upd]; rw [if_neg (by omega), if_neg (by omega), if_neg (by omega), if_neg (by omega)], by simp only [upd]; rw [if_neg (by omega), if_neg (by omega), if_neg (by omega), if_pos trivial], by simp only [upd]; rw [if_neg (by omega), if_neg (by omega), if_pos trivial]; rfl, by simp only [upd]; rw [if_neg (by omega), if_pos trivial]; rfl, by simp only [upd]; rw [if_pos trivial]; rfl⟩, by rw [ht]; exact hP, va_K.moved hW.alike hK, hD⟩, hS.F ht⟩) hS.2.2 dX3_lay_36
          · exact absurd cq5 (by omega)
set_option maxHeartbeats 4000000 in
set_option maxRecDepth 100000 in
/-- feed -/
theorem c_X3_feed (l : Launch) (dC : Nat → ClassId) (dI : Nat → Nat → Nat) (cB cI : ClassId) (sz : Nat) (m0 mt mi mk mf ml tc n w ks : Nat) (ft pa : Int) (tf : Nat → Int32) (ht : tc ≤ 10240) (hfit0 : sb_Fit tf) (x1 x2 x3 x4 x5 : Int32) : Met l yX3_feed wX3_feed ({ frames := 1, cells := 0, slots := 0, locals := 22 }) (va_Pc [.ref m0, .int (x1), .int (x2), .int (x3), .int (x4), .int (x5)] (vx_B (dC, dI) vwCl [(cB, .byte), (cI, .int)] [(m0, .inr (3, [.ref mt, .ref mi, .ref mk, .ref mf, .ref ml, .int (iI ((tc : Int))), .int (iI ((n : Int))), .int (iI ((w : Int))), .int (iI ((ks : Int))), .int (iI (ft)), .int (iI (pa))])), (mt, .inl (cB, 10240, .inl (tf)))] sz)) (va_Qi (fun (r : Int32) (u : Nat × (Nat → Int32)) => r = iI (if tc + 20 ≤ 10240 then 1 else 0) ∧ sb_Fit u.2 ∧ (∀ j, j < tc → u.2 j = tf j) ∧ (tc + 20 ≤ 10240 → u.1 = tc + 20 ∧ ∀ j, j < 20 → u.2 (tc + j) = fB x1 x2 x3 x4 x5 j) ∧ (¬ tc + 20 ≤ 10240 → u.1 = tc)) (fun (u : Nat × (Nat → Int32)) => vx_E (dC, dI) vwCl [(cB, .byte), (cI, .int)] (va_A [(m0, .inr (3, [.ref mt, .ref mi, .ref mk, .ref mf, .ref ml, .int (iI ((tc : Int))), .int (iI ((n : Int))), .int (iI ((w : Int))), .int (iI ((ks : Int))), .int (iI (ft)), .int (iI (pa))])), (mt, .inl (cB, 10240, .inl (tf)))] sz) [(m0, .inr (3, [.ref mt, .ref mi, .ref mk, .ref mf, .ref ml, .int (iI ((u.1 : Int))), .int (iI ((n : Int))), .int (iI ((w : Int))), .int (iI ((ks : Int))), .int (iI (ft)), .int (iI (pa))])), (mt, .inl (cB, 10240, .inl (u.2)))]) (va_A [(m0, .inr (3, [.ref mt, .ref mi, .ref mk, .ref mf, .ref ml, .int (iI ((tc : Int))), .int (iI ((n : Int))), .int (iI ((w : Int))), .int (iI ((ks : Int))), .int (iI (ft)), .int (iI (pa))])), (mt, .inl (cB, 10240, .inl (tf)))] sz)) (0) (0) (va_A [(m0, .inr (3, [.ref mt, .ref mi, .ref mk, .ref mf, .ref ml, .int (iI ((tc : Int))), .int (iI ((n : Int))), .int (iI ((w : Int))), .int (iI ((ks : Int))), .int (iI (ft)), .int (iI (pa))])), (mt, .inl (cB, 10240, .inl (tf)))] sz) := by
  refine Met.ofW (cc := cX3_feed) (maxL := 6) (ret := (some .boolean)) (by decide) rfl ?_
  intro p e s m args below meth c s₁ B hml hv
  obtain ⟨rfl, hsz, hP, hK, hD0⟩ := hv
  have hx := B.exec
  have hb := B.bytes
  have hr := B.returns
  have hts := atoms_spec (ws := wX3_feed) B.pre
  have hown : s.vm.findClass "RequestCutterModel" = some m.cls := findClass_of_methodNamed B.named
  have hlocks := B.notSynchronized
  subst hsz
  have hD := hD0.self (sz := s.heap.size)
  generalize hAe : va_A [(m0, .inr (3, [.ref mt, .ref mi, .ref mk, .ref mf, .ref ml, .int (iI ((tc : Int))), .int (iI ((n : Int))), .int (iI ((w : Int))), .int (iI ((ks : Int))), .int (iI (ft)), .int (iI (pa))])), (mt, .inl (cB, 10240, .inl (tf)))] s.heap.size = A at hD ⊢
  have hA : ∀ q : Nat, s.heap.size ≤ q → A q := fun q h => by rw [← hAe]; exact Or.inr h
  have hS : va_S A s.heap s.heap [] := va_S.rf
  have hP : va_P (dC, dI) vwCl [(m0, .inr (3, [.ref mt, .ref mi, .ref mk, .ref mf, .ref ml, .int (iI ((tc : Int))), .int (iI ((n : Int))), .int (iI ((w : Int))), .int (iI ((ks : Int))), .int (iI (ft)), .int (iI (pa))])), (mt, .inl (cB, 10240, .inl (tf)))] s.heap := hP
  have hl := lv_entry ([.ref m0, .int (x1), .int (x2), .int (x3), .int (x4), .int (x5)]) (n := 6) (Nat.le_of_ble_eq_true rfl)
  rw [lg_entry_eq]
  generalize (lg_sl ([.ref m0, .int (x1), .int (x2), .int (x3), .int (x4), .int (x5)]) ++ List.replicate (6 - (lg_sl ([.ref m0, .int (x1), .int (x2), .int (x3), .int (x4), .int (x5)])).length) Slot.unset).toArray = ls at hl ⊢
  have hl : lv_has ls 6 [(0, .ref m0), (1, .int (x1)), (2, .int (x2)), (3, .int (x3)), (4, .int (x4)), (5, .int (x5))] := hl
  refine lv_aload_n hx hb dX3_feed_0 rfl (lv_at hl 0 rfl) ?_
  refine va_get (D := (dC, dI)) (ci := 3) (v := .int (iI ((tc : Int)))) (C := "RequestCutterModel") (T := TX3) (N := 11) hx hb hts (fun w h => List.mem_cons_of_mem _ (inX3 w h)) hown hK hP 0 rfl rfl 5 (by decide) (hts _ (List.mem_cons_of_mem _ tw_271)) (fun _ h9 => h9) rfl dX3_feed_1 ?_
  refine lv_bipush (v := iI (20)) hx hb dX3_feed_4 (by decide) ?_
  refine lx_iadd (a := (tc : Int)) (b := 20) hx hb dX3_feed_6 ?_
  refine lv_sipush (v := iI (10240)) hx hb dX3_feed_7 (by decide) ?_
  refine lx_icmp_le (a := ((tc : Int)) + 20) (b := 10240) (tgt := 15) hx hb dX3_feed_10 (by decide) (by omega) (by omega) (fun cq1 => ?_) (fun cq1 => ?_)
  · refine lv_aload_n hx hb dX3_feed_15 rfl (lv_at hl 0 rfl) ?_
    refine lv_iload_n hx hb dX3_feed_16 rfl (lv_at hl 1 rfl) ?_
    have hd0 : ∀ j, j < 0 → tf (tc + j) = fB x1 x2 x3 x4 x5 j := fun j hj => absurd hj (Nat.not_lt_zero j)
    refine vx_Vv (As := [.int (x1)]) (rest := []) (wr := []) (ci := 3) (q0 := 0) [0, 1] [] ⟨hx, hb, hml, hown, hts⟩ (c_X3_lay l dC dI cB cI _ m0 mt mi mk mf ml (tc) n w ks ft pa tf (by omega) hfit0 x1) (cwV 1 hts (gd_V tw_304 tw_306 tw_10 tw_22 tw_307) rfl rfl rfl (by decide +kernel) ⟨Nat.le_of_ble_eq_true rfl, Nat.le_of_ble_eq_true rfl⟩) hK hP hD hS hA rfl rfl rfl rfl (by decide) rfl rfl rfl rfl hl.1 rfl (Nat.le_of_ble_eq_true rfl) dX3_feed_17 ⟨Nat.zero_le _, Nat.zero_le _⟩ (fun u H locs hw hP hD hS => ?_)
    obtain ⟨f1, rfl⟩ : ∃ z, z = u := ⟨_, rfl⟩
    try dsimp only at hw hP hD
    obtain ⟨hfit1, hk1, e0, e1, e2, e3⟩ := hw
    have hP : va_P (dC, dI) vwCl [(m0, .inr (3, [.ref mt, .ref mi, .ref mk, .ref mf, .ref ml, .int (iI (((tc + 4 : Nat) : Int))), .int (iI ((n : Int))), .int (iI ((w : Int))), .int (iI ((ks : Int))), .int (iI (ft)), .int (iI (pa))])), (mt, .inl (cB, 10240, .inl (f1)))] H := hP.sub [0, 1] rfl
    have hD : va_D A [(m0, .inr (3, [.ref mt, .ref mi, .ref mk, .ref mf, .ref ml, .int (iI (((tc + 4 : Nat) : Int))), .int (iI ((n : Int))), .int (iI ((w : Int))), .int (iI ((ks : Int))), .int (iI (ft)), .int (iI (pa))])), (mt, .inl (cB, 10240, .inl (f1)))] := hD.sub [0, 1] (by decide) rfl
    have hd1 := fd_step hd0 (fun j hj => hk1 j (by omega)) e0 e1 e2 e3
    refine lv_aload_n hx hb dX3_feed_20 rfl (lv_at hl 0 rfl) ?_
    refine lv_iload_n hx hb dX3_feed_21 rfl (lv_at hl 2 rfl) ?_
    refine vx_Vv (As := [.int (x2)]) (rest := []) (wr := []) (ci := 3) (q0 := 0) [0, 1] [] ⟨hx, hb, hml, hown, hts⟩ (c_X3_lay l dC dI cB cI _ m0 mt mi mk mf ml (tc + 4) n w ks ft pa f1 (by omega) hfit1 x2) (cwV 1 hts (gd_V tw_304 tw_306 tw_10 tw_22 tw_307) rfl rfl rfl (by decide +kernel) ⟨Nat.le_of_ble_eq_true rfl, Nat.le_of_ble_eq_true rfl⟩) hK hP hD hS hA rfl rfl rfl rfl (by decide) rfl rfl rfl rfl hl.1 rfl (Nat.le_of_ble_eq_true rfl) dX3_feed_22 ⟨Nat.zero_le _, Nat.zero_le _⟩ (fun u H locs hw hP hD hS => ?_)
    obtain ⟨f2, rfl⟩ : ∃ z, z = u := ⟨_, rfl⟩
    try dsimp only at hw hP hD
    obtain ⟨hfit2, hk2, e0, e1, e2, e3⟩ := hw
    have hP : va_P (dC, dI) vwCl [(m0, .inr (3, [.ref mt, .ref mi, .ref mk, .ref mf, .ref ml, .int (iI (((tc + 4 + 4 : Nat) : Int))), .int (iI ((n : Int))), .int (iI ((w : Int))), .int (iI ((ks : Int))), .int (iI (ft)), .int (iI (pa))])), (mt, .inl (cB, 10240, .inl (f2)))] H := hP.sub [0, 1] rfl
    have hD : va_D A [(m0, .inr (3, [.ref mt, .ref mi, .ref mk, .ref mf, .ref ml, .int (iI (((tc + 4 + 4 : Nat) : Int))), .int (iI ((n : Int))), .int (iI ((w : Int))), .int (iI ((ks : Int))), .int (iI (ft)), .int (iI (pa))])), (mt, .inl (cB, 10240, .inl (f2)))] := hD.sub [0, 1] (by decide) rfl
    have hd2 := fd_step hd1 (fun j hj => hk2 j (by omega)) e0 e1 e2 e3
    refine lv_aload_n hx hb dX3_feed_25 rfl (lv_at hl 0 rfl) ?_
    refine lv_iload_n hx hb dX3_feed_26 rfl (lv_at hl 3 rfl) ?_
    refine vx_Vv (As := [.int (x3)]) (rest := []) (wr := []) (ci := 3) (q0 := 0) [0, 1] [] ⟨hx, hb, hml, hown, hts⟩ (c_X3_lay l dC dI cB cI _ m0 mt mi mk mf ml (tc + 4 + 4) n w ks ft pa f2 (by omega) hfit2 x3) (cwV 1 hts (gd_V tw_304 tw_306 tw_10 tw_22 tw_307) rfl rfl rfl (by decide +kernel) ⟨Nat.le_of_ble_eq_true rfl, Nat.le_of_ble_eq_true rfl⟩) hK hP hD hS hA rfl rfl rfl rfl (by decide) rfl rfl rfl rfl hl.1 rfl (Nat.le_of_ble_eq_true rfl) dX3_feed_27 ⟨Nat.zero_le _, Nat.zero_le _⟩ (fun u H locs hw hP hD hS => ?_)
    obtain ⟨f3, rfl⟩ : ∃ z, z = u := ⟨_, rfl⟩
    try dsimp only at hw hP hD
    obtain ⟨hfit3, hk3, e0, e1, e2, e3⟩ := hw
    have hP : va_P (dC, dI) vwCl [(m0, .inr (3, [.ref mt, .ref mi, .ref mk, .ref mf, .ref ml, .int (iI (((tc + 4 + 4 + 4 : Nat) : Int))), .int (iI ((n : Int))), .int (iI ((w : Int))), .int (iI ((ks : Int))), .int (iI (ft)), .int (iI (pa))])), (mt, .inl (cB, 10240, .inl (f3)))] H := hP.sub [0, 1] rfl
    have hD : va_D A [(m0, .inr (3, [.ref mt, .ref mi, .ref mk, .ref mf, .ref ml, .int (iI (((tc + 4 + 4 + 4 : Nat) : Int))), .int (iI ((n : Int))), .int (iI ((w : Int))), .int (iI ((ks : Int))), .int (iI (ft)), .int (iI (pa))])), (mt, .inl (cB, 10240, .inl (f3)))] := hD.sub [0, 1] (by decide) rfl
    have hd3 := fd_step hd2 (fun j hj => hk3 j (by omega)) e0 e1 e2 e3
    refine lv_aload_n hx hb dX3_feed_30 rfl (lv_at hl 0 rfl) ?_
    refine lv_iload hx hb dX3_feed_31 (lv_at hl 4 rfl) ?_
    refine vx_Vv (As := [.int (x4)]) (rest := []) (wr := []) (ci := 3) (q0 := 0) [0, 1] [] ⟨hx, hb, hml, hown, hts⟩ (c_X3_lay l dC dI cB cI _ m0 mt mi mk mf ml (tc + 4 + 4 + 4) n w ks ft pa f3 (by omega) hfit3 x4) (cwV 1 hts (gd_V tw_304 tw_306 tw_10 tw_22 tw_307) rfl rfl rfl (by decide +kernel) ⟨Nat.le_of_ble_eq_true rfl, Nat.le_of_ble_eq_true rfl⟩) hK hP hD hS hA rfl rfl rfl rfl (by decide) rfl rfl rfl rfl hl.1 rfl (Nat.le_of_ble_eq_true rfl) dX3_feed_33 ⟨Nat.zero_le _, Nat.zero_le _⟩ (fun u H locs hw hP hD hS => ?_)
    obtain ⟨f4, rfl⟩ : ∃ z, z = u := ⟨_, rfl⟩
    try dsimp only at hw hP hD
    obtain ⟨hfit4, hk4, e0, e1, e2, e3⟩ := hw
    have hP : va_P (dC, dI) vwCl [(m0, .inr (3, [.ref mt, .ref mi, .ref mk, .ref mf, .ref ml, .int (iI (((tc + 4 + 4 + 4 + 4 : Nat) : Int))), .int (iI ((n : Int))), .int (iI ((w : Int))), .int (iI ((ks : Int))), .int (iI (ft)), .int (iI (pa))])), (mt, .inl (cB, 10240, .inl (f4)))] H := hP.sub [0, 1] rfl
    have hD : va_D A [(m0, .inr (3, [.ref mt, .ref mi, .ref mk, .ref mf, .ref ml, .int (iI (((tc + 4 + 4 + 4 + 4 : Nat) : Int))), .int (iI ((n : Int))), .int (iI ((w : Int))), .int (iI ((ks : Int))), .int (iI (ft)), .int (iI (pa))])), (mt, .inl (cB, 10240, .inl (f4)))] := hD.sub [0, 1] (by decide) rfl
    have hd4 := fd_step hd3 (fun j hj => hk4 j (by omega)) e0 e1 e2 e3
    refine lv_aload_n hx hb dX3_feed_36 rfl (lv_at hl 0 rfl) ?_
    refine lv_iload hx hb dX3_feed_37 (lv_at hl 5 rfl) ?_
    refine vx_Vv (As := [.int (x5)]) (rest := []) (wr := []) (ci := 3) (q0 := 0) [0, 1] [] ⟨hx, hb, hml, hown, hts⟩ (c_X3_lay l dC dI cB cI _ m0 mt mi mk mf ml (tc + 4 + 4 + 4 + 4) n w ks ft pa f4 (by omega) hfit4 x5) (cwV 1 hts (gd_V tw_304 tw_306 tw_10 tw_22 tw_307) rfl rfl rfl (by decide +kernel) ⟨Nat.le_of_ble_eq_true rfl, Nat.le_of_ble_eq_true rfl⟩) hK hP hD hS hA rfl rfl rfl rfl (by decide) rfl rfl rfl rfl hl.1 rfl (Nat.le_of_ble_eq_true rfl) dX3_feed_39 ⟨Nat.zero_le _, Nat.zero_le _⟩ (fun u H locs hw hP hD hS => ?_)
    obtain ⟨f5, rfl⟩ : ∃ z, z = u := ⟨_, rfl⟩
    try dsimp only at hw hP hD
    obtain ⟨hfit5, hk5, e0, e1, e2, e3⟩ := hw
    have hP : va_P (dC, dI) vwCl [(m0, .inr (3, [.ref mt, .ref mi, .ref mk, .ref mf, .ref ml, .int (iI (((tc + 4 + 4 + 4 + 4 + 4 : Nat) : Int))), .int (iI ((n : Int))), .int (iI ((w : Int))), .int (iI ((ks : Int))), .int (iI (ft)), .int (iI (pa))])), (mt, .inl (cB, 10240, .inl (f5)))] H := hP.sub [0, 1] rfl
    have hD : va_D A [(m0, .inr (3, [.ref mt, .ref mi, .ref mk, .ref mf, .ref ml, .int (iI (((tc + 4 + 4 + 4 + 4 + 4 : Nat) : Int))), .int (iI ((n : Int))), .int (iI ((w : Int))), .int (iI ((ks : Int))), .int (iI (ft)), .int (iI (pa))])), (mt, .inl (cB, 10240, .inl (f5)))] := hD.sub [0, 1] (by decide) rfl
    have hd5 := fd_step hd4 (fun j hj => hk5 j (by omega)) e0 e1 e2 e3
    refine lv_iconst (v := iI (1)) hx hb dX3_feed_42 rfl ?_
    exact W.zret (v := iI (1)) hx hb hr (by rfl) (fun t ht hW => ⟨⟨iI (1), (tc + 4 + 4 + 4 + 4 + 4, f5), rfl, ⟨by rw [if_pos (by omega)], hfit5, fun j hj => by show f5 j = _; rw [hk5 j (by omega), hk4 j (by omega), hk3 j (by omega), hk2 j (by omega), hk1 j hj], fun _ => ⟨rfl, hd5⟩, fun z => by omega⟩, by rw [ht]; exact hP, va_K.moved hW.alike hK, hD⟩, hS.F ht⟩) hS.2.2 dX3_feed_43
  · refine lv_iconst (v := iI (0)) hx hb dX3_feed_13 rfl ?_
    exact W.zret (v := iI (0)) hx hb hr (by rfl) (fun t ht hW => ⟨⟨iI (0), (tc, tf), rfl, ⟨by rw [if_neg (by omega)], hfit0, fun _ _ => rfl, fun z => by omega, fun _ => rfl⟩, by rw [ht]; exact hP, va_K.moved hW.alike hK, hD⟩, hS.F ht⟩) hS.2.2 dX3_feed_14
set_option maxHeartbeats 4000000 in
set_option maxRecDepth 100000 in
/-- arrive() -/
theorem c_X3_arrive (l : Launch) (dC : Nat → ClassId) (dI : Nat → Nat → Nat) (cB cI : ClassId) (sz : Nat) (m0 mt mi mk mf ml tc n w ks : Nat) (ft pa : Int) (tf f : Nat → Int32) (ht : tc ≤ 10240) (hn : n ≤ 65536) (htf : sb_Fit tf) (hfit : sb_Fit f) : Met l yX3_arrive wX3_arrive ({ frames := 0, cells := 0, slots := 0, locals := 0 }) (va_Pc [.ref m0] (vx_B (dC, dI) vwCl [(cB, .byte), (cI, .int)] [(m0, .inr (3, [.ref mt, .ref mi, .ref mk, .ref mf, .ref ml, .int (iI ((tc : Int))), .int (iI ((n : Int))), .int (iI ((w : Int))), .int (iI ((ks : Int))), .int (iI (ft)), .int (iI (pa))])), (mt, .inl (cB, 10240, .inl (tf))), (mi, .inl (cB, 65536, .inl (f)))] sz)) (va_Qi (fun (r : Int32) (u : Nat × (Nat → Int32)) => r = iI (if n + tc ≤ 65536 then ((n + tc : Nat) : Int) else -1) ∧ sb_Fit u.2 ∧ (∀ j, j < n → u.2 j = f j) ∧ (n + tc ≤ 65536 → u.1 = n + tc ∧ ∀ j, j < tc → u.2 (n + j) = tf j) ∧ (¬ n + tc ≤ 65536 → u.1 = n)) (fun (u : Nat × (Nat → Int32)) => vx_E (dC, dI) vwCl [(cB, .byte), (cI, .int)] (va_A [(m0, .inr (3, [.ref mt, .ref mi, .ref mk, .ref mf, .ref ml, .int (iI ((tc : Int))), .int (iI ((n : Int))), .int (iI ((w : Int))), .int (iI ((ks : Int))), .int (iI (ft)), .int (iI (pa))])), (mt, .inl (cB, 10240, .inl (tf))), (mi, .inl (cB, 65536, .inl (f)))] sz) [(m0, .inr (3, [.ref mt, .ref mi, .ref mk, .ref mf, .ref ml, .int (iI (((0 : Nat) : Int))), .int (iI ((u.1 : Int))), .int (iI ((w : Int))), .int (iI ((ks : Int))), .int (iI (ft)), .int (iI (pa))])), (mt, .inl (cB, 10240, .inl (tf))), (mi, .inl (cB, 65536, .inl (u.2)))]) (va_A [(m0, .inr (3, [.ref mt, .ref mi, .ref mk, .ref mf, .ref ml, .int (iI ((tc : Int))), .int (iI ((n : Int))), .int (iI ((w : Int))), .int (iI ((ks : Int))), .int (iI (ft)), .int (iI (pa))])), (mt, .inl (cB, 10240, .inl (tf))), (mi, .inl (cB, 65536, .inl (f)))] sz)) (0) (0) (va_A [(m0, .inr (3, [.ref mt, .ref mi, .ref mk, .ref mf, .ref ml, .int (iI ((tc : Int))), .int (iI ((n : Int))), .int (iI ((w : Int))), .int (iI ((ks : Int))), .int (iI (ft)), .int (iI (pa))])), (mt, .inl (cB, 10240, .inl (tf))), (mi, .inl (cB, 65536, .inl (f)))] sz) := by
  refine Met.ofW (cc := cX3_arrive) (maxL := 3) (ret := (some .int)) (by decide) rfl ?_
  intro p e s m args below meth c s₁ B hml hv
  obtain ⟨rfl, hsz, hP, hK, hD0⟩ := hv
  have hx := B.exec
  have hb := B.bytes
  have hr := B.returns
  have hts := atoms_spec (ws := wX3_arrive) B.pre
  have hown : s.vm.findClass "RequestCutterModel" = some m.cls := findClass_of_methodNamed B.named
  have hlocks := B.notSynchronized
  subst hsz
  have hD := hD0.self (sz := s.heap.size)
  generalize hAe : va_A [(m0, .inr (3, [.ref mt, .ref mi, .ref mk, .ref mf, .ref ml, .int (iI ((tc : Int))), .int (iI ((n : Int))), .int (iI ((w : Int))), .int (iI ((ks : Int))), .int (iI (ft)), .int (iI (pa))])), (mt, .inl (cB, 10240, .inl (tf))), (mi, .inl (cB, 65536, .inl (f)))] s.heap.size = A at hD ⊢
  have hA : ∀ q : Nat, s.heap.size ≤ q → A q := fun q h => by rw [← hAe]; exact Or.inr h
  have hS : va_S A s.heap s.heap [] := va_S.rf
  have hP : va_P (dC, dI) vwCl [(m0, .inr (3, [.ref mt, .ref mi, .ref mk, .ref mf, .ref ml, .int (iI ((tc : Int))), .int (iI ((n : Int))), .int (iI ((w : Int))), .int (iI ((ks : Int))), .int (iI (ft)), .int (iI (pa))])), (mt, .inl (cB, 10240, .inl (tf))), (mi, .inl (cB, 65536, .inl (f)))] s.heap := hP
  have hl := lv_entry ([.ref m0]) (n := 3) (Nat.le_of_ble_eq_true rfl)
  rw [lg_entry_eq]
  generalize (lg_sl ([.ref m0]) ++ List.replicate (3 - (lg_sl ([.ref m0])).length) Slot.unset).toArray = ls at hl ⊢
  have hl : lv_has ls 3 [(0, .ref m0)] := hl
  refine lv_aload_n hx hb dX3_arrive_0 rfl (lv_at hl 0 rfl) ?_
  refine va_get (D := (dC, dI)) (ci := 3) (v := .int (iI ((tc : Int)))) (C := "RequestCutterModel") (T := TX3) (N := 11) hx hb hts (fun w h => List.mem_cons_of_mem _ (inX3 w h)) hown hK hP 0 rfl rfl 5 (by decide) (hts _ (List.mem_cons_of_mem _ tw_271)) (fun _ h9 => h9) rfl dX3_arrive_1 ?_
  refine lv_istore_n (lv' := [(1, .int (iI ((tc : Int)))), (0, .ref m0)]) hx hb dX3_arrive_4 rfl hl (by decide) rfl (fun ls hl => ?_)
  refine lv_aload_n hx hb dX3_arrive_5 rfl (lv_at hl 1 rfl) ?_
  refine lv_iconst (v := iI (0)) hx hb dX3_arrive_6 rfl ?_
  refine va_put (D := (dC, dI)) (ci := 3) (v := .int (iI (((0 : Nat) : Int)))) (ty := .int) (C := "RequestCutterModel") (T := TX3) (N := 11) hx hb hts (fun w h => List.mem_cons_of_mem _ (inX3 w h)) tyX3 tyX3_ok nmX3 hown hK hP hD hS 0 rfl rfl 5 (by decide) (hts _ (List.mem_cons_of_mem _ tw_271)) (fun _ h9 => h9) rfl (by decide +kernel) rfl rfl (Nat.le_of_ble_eq_true rfl) dX3_arrive_7 (fun H locs hP hD hS => ?_)
  have hP : va_P (dC, dI) vwCl [(m0, .inr (3, [.ref mt, .ref mi, .ref mk, .ref mf, .ref ml, .int (iI (((0 : Nat) : Int))), .int (iI ((n : Int))), .int (iI ((w : Int))), .int (iI ((ks : Int))), .int (iI (ft)), .int (iI (pa))])), (mt, .inl (cB, 10240, .inl (tf))), (mi, .inl (cB, 65536, .inl (f)))] H := hP
  have hD : va_D A [(m0, .inr (3, [.ref mt, .ref mi, .ref mk, .ref mf, .ref ml, .int (iI (((0 : Nat) : Int))), .int (iI ((n : Int))), .int (iI ((w : Int))), .int (iI ((ks : Int))), .int (iI (ft)), .int (iI (pa))])), (mt, .inl (cB, 10240, .inl (tf))), (mi, .inl (cB, 65536, .inl (f)))] := hD
  refine lv_aload_n hx hb dX3_arrive_10 rfl (lv_at hl 1 rfl) ?_
  refine va_get (D := (dC, dI)) (ci := 3) (v := .int (iI ((n : Int)))) (C := "RequestCutterModel") (T := TX3) (N := 11) hx hb hts (fun w h => List.mem_cons_of_mem _ (inX3 w h)) hown hK hP 0 rfl rfl 6 (by decide) (hts _ (List.mem_cons_of_mem _ tw_272)) (fun _ h9 => h9) rfl dX3_arrive_11 ?_
  refine lv_iload_n hx hb dX3_arrive_14 rfl (lv_at hl 0 rfl) ?_
  refine lx_iadd (a := (n : Int)) (b := (tc : Int)) hx hb dX3_arrive_15 ?_
  refine lx_ldc (z := 65536) (v := 65536) hx hb hown (hts _ (List.mem_cons_of_mem _ tw_265)) (by decide) dX3_arrive_16 ?_
  refine lx_icmp_le (a := ((n : Int)) + ((tc : Int))) (b := 65536) (tgt := 23) hx hb dX3_arrive_18 (by decide) (by omega) (by omega) (fun cq1 => ?_) (fun cq1 => ?_)
  · refine lv_iconst (v := iI (0)) hx hb dX3_arrive_23 rfl ?_
    refine lv_istore_n (lv' := [(2, .int (iI (0))), (1, .int (iI ((tc : Int)))), (0, .ref m0)]) hx hb dX3_arrive_24 rfl hl (by decide) rfl (fun ls hl => ?_)
    refine (?_ : ∀ (k : Nat) (i : Nat) (g : Nat → Int32) (H : Heap) (locs : List Loc) (ls : Array Slot), i + k = tc → n + tc ≤ 65536 → sb_Fit g → (∀ j, j < n → g j = f j) → (∀ j, j < i → g (n + j) = tf j) → va_P (dC, dI) vwCl [(m0, .inr (3, [.ref mt, .ref mi, .ref mk, .ref mf, .ref ml, .int (iI (((0 : Nat) : Int))), .int (iI ((n : Int))), .int (iI ((w : Int))), .int (iI ((ks : Int))), .int (iI (ft)), .int (iI (pa))])), (mt, .inl (cB, 10240, .inl (tf))), (mi, .inl (cB, 65536, .inl (g)))] H → va_D A [(m0, .inr (3, [.ref mt, .ref mi, .ref mk, .ref mf, .ref ml, .int (iI (((0 : Nat) : Int))), .int (iI ((n : Int))), .int (iI ((w : Int))), .int (iI ((ks : Int))), .int (iI (ft)), .int (iI (pa))])), (mt, .inl (cB, 10240, .inl (tf))), (mi, .inl (cB, 65536, .inl (g)))] → va_S A s.heap H locs → lv_has ls 3 [(2, .int (iI ((i : Int)))), (1, .int (iI ((tc : Int)))), (0, .ref m0)] → W p l e _ s m _ below meth c H locs _ _ _ (F0 m 25 ls [])) (tc) (0) (f) _ _ ls (by omega) (by omega) (hfit) (fun _ _ => rfl) (fun j hj => absurd hj (Nat.not_lt_zero j)) (hP.sub [0, 1, 2] rfl) (hD.sub [0, 1, 2] (by decide) rfl) hS (lv_sub hl [0, 1, 2] rfl)
    intro k
    induction k with
    | zero =>
      intro i g H locs ls hk hin hg hg1 hg2 hP hD hS hl
      refine lv_iload_n hx hb dX3_arrive_25 rfl (lv_at hl 0 rfl) ?_
      refine lv_iload_n hx hb dX3_arrive_26 rfl (lv_at hl 1 rfl) ?_
      refine lx_icmp_ge (a := (i : Int)) (b := (tc : Int)) (tgt := 53) hx hb dX3_arrive_27 (by decide) (by omega) (by omega) (fun cq2 => ?_) (fun cq2 => ?_)
      · refine lv_aload_n hx hb dX3_arrive_53 rfl (lv_at hl 2 rfl) ?_
        refine lv_dup hx hb dX3_arrive_54 rfl ?_
        refine va_get (D := (dC, dI)) (ci := 3) (v := .int (iI ((n : Int)))) (C := "RequestCutterModel") (T := TX3) (N := 11) hx hb hts (fun w h => List.mem_cons_of_mem _ (inX3 w h)) hown hK hP 0 rfl rfl 6 (by decide) (hts _ (List.mem_cons_of_mem _ tw_272)) (fun _ h9 => h9) rfl dX3_arrive_55 ?_
        refine lv_iload_n hx hb dX3_arrive_58 rfl (lv_at hl 1 rfl) ?_
        refine lx_iadd (a := (n : Int)) (b := (tc : Int)) hx hb dX3_arrive_59 ?_
        refine lx_top (x2 := iI ((n + tc : Nat) : Int)) (congrArg iI (by omega)) ?_
        refine va_put (D := (dC, dI)) (ci := 3) (v := .int (iI (((n + tc : Nat) : Int)))) (ty := .int) (C := "RequestCutterModel") (T := TX3) (N := 11) hx hb hts (fun w h => List.mem_cons_of_mem _ (inX3 w h)) tyX3 tyX3_ok nmX3 hown hK hP hD hS 0 rfl rfl 6 (by decide) (hts _ (List.mem_cons_of_mem _ tw_272)) (fun _ h9 => h9) rfl (by decide +kernel) rfl rfl (Nat.le_of_ble_eq_true rfl) dX3_arrive_60 (fun H locs hP hD hS => ?_)
        have hP : va_P (dC, dI) vwCl [(m0, .inr (3, [.ref mt, .ref mi, .ref mk, .ref mf, .ref ml, .int (iI (((0 : Nat) : Int))), .int (iI (((n + tc : Nat) : Int))), .int (iI ((w : Int))), .int (iI ((ks : Int))), .int (iI (ft)), .int (iI (pa))])), (mt, .inl (cB, 10240, .inl (tf))), (mi, .inl (cB, 65536, .inl (g)))] H := hP
        have hD : va_D A [(m0, .inr (3, [.ref mt, .ref mi, .ref mk, .ref mf, .ref ml, .int (iI (((0 : Nat) : Int))), .int (iI (((n + tc : Nat) : Int))), .int (iI ((w : Int))), .int (iI ((ks : Int))), .int (iI (ft)), .int (iI (pa))])), (mt, .inl (cB, 10240, .inl (tf))), (mi, .inl (cB, 65536, .inl (g)))] := hD
        refine lv_aload_n hx hb dX3_arrive_63 rfl (lv_at hl 2 rfl) ?_
        refine va_get (D := (dC, dI)) (ci := 3) (v := .int (iI (((n + tc : Nat) : Int)))) (C := "RequestCutterModel") (T := TX3) (N := 11) hx hb hts (fun w h => List.mem_cons_of_mem _ (inX3 w h)) hown hK hP 0 rfl rfl 6 (by decide) (hts _ (List.mem_cons_of_mem _ tw_272)) (fun _ h9 => h9) rfl dX3_arrive_64 ?_
        exact W.iret (v := iI (((n + tc : Nat) : Int))) hx hb hr (fun t ht hW => ⟨⟨iI (((n + tc : Nat) : Int)), (n + tc, g), rfl, ⟨by rw [if_pos (by omega)], hg, hg1, fun _ => ⟨rfl, fun j hj => hg2 j (by omega)⟩, fun z => by omega⟩, by rw [ht]; exact hP, va_K.moved hW.alike hK, hD⟩, hS.F ht⟩) hS.2.2 dX3_arrive_67
      · exact absurd cq2 (by omega)
    | succ k ih =>
      intro i g H locs ls hk hin hg hg1 hg2 hP hD hS hl
      refine lv_iload_n hx hb dX3_arrive_25 rfl (lv_at hl 0 rfl) ?_
      refine lv_iload_n hx hb dX3_arrive_26 rfl (lv_at hl 1 rfl) ?_
      refine lx_icmp_ge (a := (i : Int)) (b := (tc : Int)) (tgt := 53) hx hb dX3_arrive_27 (by decide) (by omega) (by omega) (fun cq3 => ?_) (fun cq3 => ?_)
      · exact absurd cq3 (by omega)
      · refine lv_aload_n hx hb dX3_arrive_30 rfl (lv_at hl 2 rfl) ?_
        refine va_get (D := (dC, dI)) (ci := 3) (v := .ref mi) (C := "RequestCutterModel") (T := TX3) (N := 11) hx hb hts (fun w h => List.mem_cons_of_mem _ (inX3 w h)) hown hK hP 0 rfl rfl 1 (by decide) (hts _ (List.mem_cons_of_mem _ tw_267)) (fun _ h9 => h9) rfl dX3_arrive_31 ?_
        refine lv_aload_n hx hb dX3_arrive_34 rfl (lv_at hl 2 rfl) ?_
        refine va_get (D := (dC, dI)) (ci := 3) (v := .int (iI ((n : Int)))) (C := "RequestCutterModel") (T := TX3) (N := 11) hx hb hts (fun w h => List.mem_cons_of_mem _ (inX3 w h)) hown hK hP 0 rfl rfl 6 (by decide) (hts _ (List.mem_cons_of_mem _ tw_272)) (fun _ h9 => h9) rfl dX3_arrive_35 ?_
        refine lv_iload_n hx hb dX3_arrive_38 rfl (lv_at hl 0 rfl) ?_
        refine lx_iadd (a := (n : Int)) (b := (i : Int)) hx hb dX3_arrive_39 ?_
        refine lv_aload_n hx hb dX3_arrive_40 rfl (lv_at hl 2 rfl) ?_
        refine va_get (D := (dC, dI)) (ci := 3) (v := .ref mt) (C := "RequestCutterModel") (T := TX3) (N := 11) hx hb hts (fun w h => List.mem_cons_of_mem _ (inX3 w h)) hown hK hP 0 rfl rfl 0 (by decide) (hts _ (List.mem_cons_of_mem _ tw_266)) (fun _ h9 => h9) rfl dX3_arrive_41 ?_
        refine lv_iload_n hx hb dX3_arrive_44 rfl (lv_at hl 0 rfl) ?_
        refine va_bald hx hb hK hP 1 0 rfl rfl (iI_in (by omega)) dX3_arrive_45 ?_
        refine lx_top (x2 := (tf) (i)) (congrArg (tf) (iI_clN (n := i) (by omega))) ?_
        refine lx_bast (x := (tf) (i)) (v := tf i) (i := ((n : Int)) + ((i : Int))) hx hb hK hP hD hS 2 0 rfl rfl (n + i) (by omega) (by omega) (nar_fit (htf _)) dX3_arrive_46 (fun H locs hP hD hS => ?_)
        have hP : va_P (dC, dI) vwCl [(m0, .inr (3, [.ref mt, .ref mi, .ref mk, .ref mf, .ref ml, .int (iI (((0 : Nat) : Int))), .int (iI ((n : Int))), .int (iI ((w : Int))), .int (iI ((ks : Int))), .int (iI (ft)), .int (iI (pa))])), (mt, .inl (cB, 10240, .inl (tf))), (mi, .inl (cB, 65536, .inl (upd (g) (n + i) (tf i))))] H := hP
        have hD : va_D A [(m0, .inr (3, [.ref mt, .ref mi, .ref mk, .ref mf, .ref ml, .int (iI (((0 : Nat) : Int))), .int (iI ((n : Int))), .int (iI ((w : Int))), .int (iI ((ks : Int))), .int (iI (ft)), .int (iI (pa))])), (mt, .inl (cB, 10240, .inl (tf))), (mi, .inl (cB, 65536, .inl (upd (g) (n + i) (tf i))))] := hD
        refine lv_iinc (v := iI ((i : Int) + 1)) (lv' := [(2, .int (iI ((i : Int) + 1))), (1, .int (iI ((tc : Int)))), (0, .ref m0)]) hx hb dX3_arrive_47 hl (k := 0) rfl (iI_add _ _) (by decide) rfl (fun ls hl => ?_)
        refine lv_goto (tgt := 25) hx hb dX3_arrive_50 (by decide) ?_
        exact ih (i + 1) (upd g (n + i) (tf i)) _ _ ls (by omega) (by omega) (sb_fitU hg (htf _)) (fun j hj => by simp only [upd]; rw [if_neg (by omega)]; exact hg1 j hj) (fun j hj => by simp only [upd]; by_cases q : j = i; rw [q, if_pos rfl]; rw [if_neg (by omega)]; exact hg2 j (by omega)) (hP.sub [0, 1, 2] rfl) (hD.sub [0, 1, 2] (by decide) rfl) hS (lv_sub hl [0, 1, 2] rfl)
  · refine lv_iconst (v := iI (-1)) hx hb dX3_arrive_21 rfl ?_
    exact W.iret (v := iI (-1)) hx hb hr (fun t ht hW => ⟨⟨iI (-1), (n, f), rfl, ⟨by rw [if_neg (by omega)], hfit, fun _ _ => rfl, fun z => by omega, fun _ => rfl⟩, by rw [ht]; exact hP, va_K.moved hW.alike hK, hD⟩, hS.F ht⟩) hS.2.2 dX3_arrive_22
