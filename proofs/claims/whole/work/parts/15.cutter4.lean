set_option maxHeartbeats 4000000 in
set_option maxRecDepth 100000 in
/-- fault() -/
theorem c_X2_fault (l : Launch) (dC : Nat → ClassId) (dI : Nat → Nat → Nat) (cB cI : ClassId) (h tp ip wd : Nat) (lf ln : Int) : Met l yX2_fault wX2_fault ({ frames := 0, cells := 0, slots := 0, locals := 0 }) (va_Pc [.ref h] (vx_R (dC, dI) vwCl [(cB, .byte), (cI, .int)] [(h, .inr (2, [.ref tp, .ref ip, .ref wd, .int (iI (lf)), .int (iI (ln))]))])) (vp_Si (fun r => r = iI lf)) 0 0 (fun _ => False) := by
  refine Met.ofW (cc := cX2_fault) (maxL := 1) (ret := (some .int)) (by decide) rfl ?_
  intro p e s m args below meth c s₁ B hml hv
  obtain ⟨rfl, hP, hK⟩ := hv
  have hx := B.exec
  have hb := B.bytes
  have hr := B.returns
  have hts := atoms_spec (ws := wX2_fault) B.pre
  have hown : s.vm.findClass "RequestCutter" = some m.cls := findClass_of_methodNamed B.named
  have hlocks := B.notSynchronized
  have hP : va_P (dC, dI) vwCl [(h, .inr (2, [.ref tp, .ref ip, .ref wd, .int (iI (lf)), .int (iI (ln))]))] s.heap := hP
  have hl := lv_entry ([.ref h]) (n := 1) (Nat.le_of_ble_eq_true rfl)
  rw [lg_entry_eq]
  generalize (lg_sl ([.ref h]) ++ List.replicate (1 - (lg_sl ([.ref h])).length) Slot.unset).toArray = ls at hl ⊢
  have hl : lv_has ls 1 [(0, .ref h)] := hl
  refine lv_aload_n hx hb dX2_fault_0 rfl (lv_at hl 0 rfl) ?_
  refine va_get (D := (dC, dI)) (ci := 2) (v := .int (iI (lf))) (C := "RequestCutter") (T := TX2) (N := 5) hx hb hts (fun w h => List.mem_cons_of_mem _ (inX2 w h)) hown hK hP 0 rfl rfl 3 (by decide) (hts _ (List.mem_cons_of_mem _ tw_78)) (fun _ h9 => h9) rfl dX2_fault_1 ?_
  exact W.iret (v := iI (lf)) hx hb hr (fun t ht hW => ⟨iI (lf), rfl, rfl, ht⟩) (fun _ h => by cases h) dX2_fault_4
set_option maxHeartbeats 4000000 in
set_option maxRecDepth 100000 in
/-- waiting() -/
theorem c_X2_waiting (l : Launch) (dC : Nat → ClassId) (dI : Nat → Nat → Nat) (cB cI : ClassId) (h tp ip wd : Nat) (lf ln : Int) (iq n : Nat) : Met l yX2_waiting wX2_waiting ({ frames := 1, cells := 0, slots := 0, locals := 20 }) (va_Pc [.ref h] (vx_R (dC, dI) vwCl [(cB, .byte), (cI, .int)] [(h, .inr (2, [.ref tp, .ref ip, .ref wd, .int (iI (lf)), .int (iI (ln))])), (ip, .inr (0, [.int (iI (((65536 : Nat) : Int))), .ref iq, .int (iI ((n : Int)))]))])) (vp_Si (fun r => r = iI (n : Int))) 0 0 (fun _ => False) := by
  refine Met.ofW (cc := cX2_waiting) (maxL := 1) (ret := (some .int)) (by decide) rfl ?_
  intro p e s m args below meth c s₁ B hml hv
  obtain ⟨rfl, hP, hK⟩ := hv
  have hx := B.exec
  have hb := B.bytes
  have hr := B.returns
  have hts := atoms_spec (ws := wX2_waiting) B.pre
  have hown : s.vm.findClass "RequestCutter" = some m.cls := findClass_of_methodNamed B.named
  have hlocks := B.notSynchronized
  have hP : va_P (dC, dI) vwCl [(h, .inr (2, [.ref tp, .ref ip, .ref wd, .int (iI (lf)), .int (iI (ln))])), (ip, .inr (0, [.int (iI (((65536 : Nat) : Int))), .ref iq, .int (iI ((n : Int)))]))] s.heap := hP
  have hl := lv_entry ([.ref h]) (n := 1) (Nat.le_of_ble_eq_true rfl)
  rw [lg_entry_eq]
  generalize (lg_sl ([.ref h]) ++ List.replicate (1 - (lg_sl ([.ref h])).length) Slot.unset).toArray = ls at hl ⊢
  have hl : lv_has ls 1 [(0, .ref h)] := hl
  refine lv_aload_n hx hb dX2_waiting_0 rfl (lv_at hl 0 rfl) ?_
  refine va_get (D := (dC, dI)) (ci := 2) (v := .ref ip) (C := "RequestCutter") (T := TX2) (N := 5) hx hb hts (fun w h => List.mem_cons_of_mem _ (inX2 w h)) hown hK hP 0 rfl rfl 1 (by decide) (hts _ (List.mem_cons_of_mem _ tw_76)) (fun _ h9 => h9) rfl dX2_waiting_1 ?_
  refine vx_Vs (As := []) (rest := []) (ci := 0) (q0 := 0) [1] ⟨hx, hb, hml, hown, hts⟩ (c_X0_count l dC dI cB cI ip iq 65536 n) (cwV 0 hts (gd_V tw_135 tw_136 tw_137 tw_20 tw_138) rfl rfl rfl (by decide +kernel) ⟨Nat.le_of_ble_eq_true rfl, Nat.le_of_ble_eq_true rfl⟩) hK hP rfl rfl rfl rfl rfl hl.1 rfl (Nat.le_of_ble_eq_true rfl) dX2_waiting_4 ⟨Nat.zero_le _, Nat.zero_le _⟩ (fun r hr => ?_)
  obtain rfl : r = iI ((n : Int)) := hr
  exact W.iret (v := iI ((n : Int))) hx hb hr (fun t ht hW => ⟨iI ((n : Int)), rfl, rfl, ht⟩) (fun _ h => by cases h) dX2_waiting_7
set_option maxHeartbeats 4000000 in
set_option maxRecDepth 100000 in
/-- size(w) -/
theorem c_X2_size (l : Launch) (dC : Nat → ClassId) (dI : Nat → Nat → Nat) (cB cI : ClassId) (h tp ip wd : Nat) (lf ln : Int) (wb s1 s2 nl cnt : Nat) (za : Nat → Int) (hwc : cnt ≤ nl) (hwn : nl ≤ 1024) (i : Int) (hi : -2147483648 ≤ i ∧ i ≤ 2147483647) : Met l yX2_size wX2_size ({ frames := 1, cells := 0, slots := 0, locals := 21 }) (va_Pc [.ref h, .int (iI (i))] (vx_R (dC, dI) vwCl [(cB, .byte), (cI, .int)] [(h, .inr (2, [.ref tp, .ref ip, .ref wd, .int (iI (lf)), .int (iI (ln))])), (wd, .inr (1, [.ref wb, .ref s1, .ref s2, .int (iI ((cnt : Int)))])), (s2, .inl (cI, nl, .inl (fun k => iI (za k))))])) (vp_Si (fun r => r = iI (if 0 ≤ i ∧ i < cnt then za i.toNat else -1))) 0 0 (fun _ => False) := by
  refine Met.ofW (cc := cX2_size) (maxL := 2) (ret := (some .int)) (by decide) rfl ?_
  intro p e s m args below meth c s₁ B hml hv
  obtain ⟨rfl, hP, hK⟩ := hv
  have hx := B.exec
  have hb := B.bytes
  have hr := B.returns
  have hts := atoms_spec (ws := wX2_size) B.pre
  have hown : s.vm.findClass "RequestCutter" = some m.cls := findClass_of_methodNamed B.named
  have hlocks := B.notSynchronized
  have hP : va_P (dC, dI) vwCl [(h, .inr (2, [.ref tp, .ref ip, .ref wd, .int (iI (lf)), .int (iI (ln))])), (wd, .inr (1, [.ref wb, .ref s1, .ref s2, .int (iI ((cnt : Int)))])), (s2, .inl (cI, nl, .inl (fun k => iI (za k))))] s.heap := hP
  have hl := lv_entry ([.ref h, .int (iI (i))]) (n := 2) (Nat.le_of_ble_eq_true rfl)
  rw [lg_entry_eq]
  generalize (lg_sl ([.ref h, .int (iI (i))]) ++ List.replicate (2 - (lg_sl ([.ref h, .int (iI (i))])).length) Slot.unset).toArray = ls at hl ⊢
  have hl : lv_has ls 2 [(0, .ref h), (1, .int (iI (i)))] := hl
  refine lv_aload_n hx hb dX2_size_0 rfl (lv_at hl 0 rfl) ?_
  refine va_get (D := (dC, dI)) (ci := 2) (v := .ref wd) (C := "RequestCutter") (T := TX2) (N := 5) hx hb hts (fun w h => List.mem_cons_of_mem _ (inX2 w h)) hown hK hP 0 rfl rfl 2 (by decide) (hts _ (List.mem_cons_of_mem _ tw_77)) (fun _ h9 => h9) rfl dX2_size_1 ?_
  refine lv_iload_n hx hb dX2_size_4 rfl (lv_at hl 1 rfl) ?_
  refine vx_Vs (As := [.int (iI (i))]) (rest := []) (ci := 1) (q0 := 0) [1, 2] ⟨hx, hb, hml, hown, hts⟩ (c_X1_sizeOf l dC dI cB cI wd wb s1 s2 nl cnt za hwc hwn i hi) (cwV 1 hts (gd_V tw_238 tw_239 tw_240 tw_21 tw_241) rfl rfl rfl (by decide +kernel) ⟨Nat.le_of_ble_eq_true rfl, Nat.le_of_ble_eq_true rfl⟩) hK hP rfl rfl rfl rfl rfl hl.1 rfl (Nat.le_of_ble_eq_true rfl) dX2_size_5 ⟨Nat.zero_le _, Nat.zero_le _⟩ (fun r hr => ?_)
  obtain rfl : r = iI (if 0 ≤ i ∧ i < cnt then za i.toNat else -1) := hr
  exact W.iret (v := iI (if 0 ≤ i ∧ i < cnt then za i.toNat else -1)) hx hb hr (fun t ht hW => ⟨iI (if 0 ≤ i ∧ i < cnt then za i.toNat else -1), rfl, rfl, ht⟩) (fun _ h => by cases h) dX2_size_8
set_option maxHeartbeats 4000000 in
set_option maxRecDepth 100000 in
/-- byteOf(w, i) -/
theorem c_X2_byteOf (l : Launch) (dC : Nat → ClassId) (dI : Nat → Nat → Nat) (cB cI : ClassId) (h tp ip wd : Nat) (lf ln : Int) (wb s1 s2 nl cnt : Nat) (sa za : Nat → Int) (hwc : cnt ≤ nl) (hwn : nl ≤ 1024) (hz : ∀ j, j < cnt → (0 ≤ sa j ∧ sa j ≤ 65536) ∧ 0 ≤ za j ∧ za j ≤ 65536) (wq wl wc : Nat) (wf : Nat → Int32) (hwb : wc ≤ wl) (hwl : wl ≤ 65536) (i k : Int) (hi : -2147483648 ≤ i ∧ i ≤ 2147483647) (hk : -2147483648 ≤ k ∧ k ≤ 2147483647) : Met l yX2_byteOf wX2_byteOf ({ frames := 2, cells := 0, slots := 0, locals := 43 }) (va_Pc [.ref h, .int (iI (i)), .int (iI (k))] (vx_R (dC, dI) vwCl [(cB, .byte), (cI, .int)] [(h, .inr (2, [.ref tp, .ref ip, .ref wd, .int (iI (lf)), .int (iI (ln))])), (wd, .inr (1, [.ref wb, .ref s1, .ref s2, .int (iI ((cnt : Int)))])), (s1, .inl (cI, nl, .inl (fun k => iI (sa k)))), (s2, .inl (cI, nl, .inl (fun k => iI (za k)))), (wb, .inr (0, [.int (iI (((65536 : Nat) : Int))), .ref wq, .int (iI ((wc : Int)))])), (wq, .inl (cB, wl, .inl (wf)))])) (vp_Si (fun r => r = iI (if (0 ≤ i ∧ i < cnt) ∧ 0 ≤ k ∧ k < za i.toNat then bA wf wc (sa i.toNat + k) else -1))) 0 0 (fun _ => False) := by
  refine Met.ofW (cc := cX2_byteOf) (maxL := 3) (ret := (some .int)) (by decide) rfl ?_
  intro p e s m args below meth c s₁ B hml hv
  obtain ⟨rfl, hP, hK⟩ := hv
  have hx := B.exec
  have hb := B.bytes
  have hr := B.returns
  have hts := atoms_spec (ws := wX2_byteOf) B.pre
  have hown : s.vm.findClass "RequestCutter" = some m.cls := findClass_of_methodNamed B.named
  have hlocks := B.notSynchronized
  have hP : va_P (dC, dI) vwCl [(h, .inr (2, [.ref tp, .ref ip, .ref wd, .int (iI (lf)), .int (iI (ln))])), (wd, .inr (1, [.ref wb, .ref s1, .ref s2, .int (iI ((cnt : Int)))])), (s1, .inl (cI, nl, .inl (fun k => iI (sa k)))), (s2, .inl (cI, nl, .inl (fun k => iI (za k)))), (wb, .inr (0, [.int (iI (((65536 : Nat) : Int))), .ref wq, .int (iI ((wc : Int)))])), (wq, .inl (cB, wl, .inl (wf)))] s.heap := hP
  have hl := lv_entry ([.ref h, .int (iI (i)), .int (iI (k))]) (n := 3) (Nat.le_of_ble_eq_true rfl)
  rw [lg_entry_eq]
  generalize (lg_sl ([.ref h, .int (iI (i)), .int (iI (k))]) ++ List.replicate (3 - (lg_sl ([.ref h, .int (iI (i)), .int (iI (k))])).length) Slot.unset).toArray = ls at hl ⊢
  have hl : lv_has ls 3 [(0, .ref h), (1, .int (iI (i))), (2, .int (iI (k)))] := hl
  refine lv_aload_n hx hb dX2_byteOf_0 rfl (lv_at hl 0 rfl) ?_
  refine va_get (D := (dC, dI)) (ci := 2) (v := .ref wd) (C := "RequestCutter") (T := TX2) (N := 5) hx hb hts (fun w h => List.mem_cons_of_mem _ (inX2 w h)) hown hK hP 0 rfl rfl 2 (by decide) (hts _ (List.mem_cons_of_mem _ tw_77)) (fun _ h9 => h9) rfl dX2_byteOf_1 ?_
  refine lv_iload_n hx hb dX2_byteOf_4 rfl (lv_at hl 1 rfl) ?_
  refine lv_iload_n hx hb dX2_byteOf_5 rfl (lv_at hl 2 rfl) ?_
  refine vx_Vs (As := [.int (iI (i)), .int (iI (k))]) (rest := []) (ci := 1) (q0 := 0) [1, 2, 3, 4, 5] ⟨hx, hb, hml, hown, hts⟩ (c_X1_byteAt l dC dI cB cI wd wb s1 s2 nl cnt sa za hwc hwn hz wq 65536 wl wc wf hwb hwl i k hi hk) (cwV 2 hts (gd_V tw_246 tw_247 tw_248 tw_21 tw_249) rfl rfl rfl (by decide +kernel) ⟨Nat.le_of_ble_eq_true rfl, Nat.le_of_ble_eq_true rfl⟩) hK hP rfl rfl rfl rfl rfl hl.1 rfl (Nat.le_of_ble_eq_true rfl) dX2_byteOf_6 ⟨Nat.zero_le _, Nat.zero_le _⟩ (fun r hr => ?_)
  obtain rfl : r = iI (if (0 ≤ i ∧ i < cnt) ∧ 0 ≤ k ∧ k < za i.toNat then bA wf wc (sa i.toNat + k) else -1) := hr
  exact W.iret (v := iI (if (0 ≤ i ∧ i < cnt) ∧ 0 ≤ k ∧ k < za i.toNat then bA wf wc (sa i.toNat + k) else -1)) hx hb hr (fun t ht hW => ⟨iI (if (0 ≤ i ∧ i < cnt) ∧ 0 ≤ k ∧ k < za i.toNat then bA wf wc (sa i.toNat + k) else -1), rfl, rfl, ht⟩) (fun _ h => by cases h) dX2_byteOf_9
set_option maxHeartbeats 4000000 in
set_option maxRecDepth 100000 in
/-- end(n) -/
theorem c_X2_end (l : Launch) (dC : Nat → ClassId) (dI : Nat → Nat → Nat) (cB cI : ClassId) (sz : Nat) (h tp ip wd : Nat) (lf ln : Int) (tq tc : Nat) (hn : tc ≤ 10240) (i : Int) (hi : -2147483648 ≤ i ∧ i ≤ 2147483647) : Met l yX2_end wX2_end ({ frames := 1, cells := 0, slots := 0, locals := 21 }) (va_Pc [.ref h, .int (iI (i))] (vx_B (dC, dI) vwCl [(cB, .byte), (cI, .int)] [(h, .inr (2, [.ref tp, .ref ip, .ref wd, .int (iI (lf)), .int (iI (ln))])), (tp, .inr (0, [.int (iI (((10240 : Nat) : Int))), .ref tq, .int (iI ((tc : Int)))]))] sz)) (va_Qi (fun (r : Int32) (u : Nat) => r = iI (if 0 ≤ i ∧ i ≤ (tc : Int) then 1 else 0) ∧ u = (if 0 ≤ i ∧ i ≤ (tc : Int) then i.toNat else tc)) (fun (u : Nat) => vx_E (dC, dI) vwCl [(cB, .byte), (cI, .int)] (va_A [(h, .inr (2, [.ref tp, .ref ip, .ref wd, .int (iI (lf)), .int (iI (ln))])), (tp, .inr (0, [.int (iI (((10240 : Nat) : Int))), .ref tq, .int (iI ((tc : Int)))]))] sz) [(h, .inr (2, [.ref tp, .ref ip, .ref wd, .int (iI (lf)), .int (iI (ln))])), (tp, .inr (0, [.int (iI (((10240 : Nat) : Int))), .ref tq, .int (iI ((u : Int)))]))]) (va_A [(h, .inr (2, [.ref tp, .ref ip, .ref wd, .int (iI (lf)), .int (iI (ln))])), (tp, .inr (0, [.int (iI (((10240 : Nat) : Int))), .ref tq, .int (iI ((tc : Int)))]))] sz)) (0) (0) (va_A [(h, .inr (2, [.ref tp, .ref ip, .ref wd, .int (iI (lf)), .int (iI (ln))])), (tp, .inr (0, [.int (iI (((10240 : Nat) : Int))), .ref tq, .int (iI ((tc : Int)))]))] sz) := by
  refine Met.ofW (cc := cX2_end) (maxL := 2) (ret := (some .boolean)) (by decide) rfl ?_
  intro p e s m args below meth c s₁ B hml hv
  obtain ⟨rfl, hsz, hP, hK, hD0⟩ := hv
  have hx := B.exec
  have hb := B.bytes
  have hr := B.returns
  have hts := atoms_spec (ws := wX2_end) B.pre
  have hown : s.vm.findClass "RequestCutter" = some m.cls := findClass_of_methodNamed B.named
  have hlocks := B.notSynchronized
  subst hsz
  have hD := hD0.self (sz := s.heap.size)
  generalize hAe : va_A [(h, .inr (2, [.ref tp, .ref ip, .ref wd, .int (iI (lf)), .int (iI (ln))])), (tp, .inr (0, [.int (iI (((10240 : Nat) : Int))), .ref tq, .int (iI ((tc : Int)))]))] s.heap.size = A at hD ⊢
  have hA : ∀ q : Nat, s.heap.size ≤ q → A q := fun q h => by rw [← hAe]; exact Or.inr h
  have hS : va_S A s.heap s.heap [] := va_S.rf
  have hP : va_P (dC, dI) vwCl [(h, .inr (2, [.ref tp, .ref ip, .ref wd, .int (iI (lf)), .int (iI (ln))])), (tp, .inr (0, [.int (iI (((10240 : Nat) : Int))), .ref tq, .int (iI ((tc : Int)))]))] s.heap := hP
  have hl := lv_entry ([.ref h, .int (iI (i))]) (n := 2) (Nat.le_of_ble_eq_true rfl)
  rw [lg_entry_eq]
  generalize (lg_sl ([.ref h, .int (iI (i))]) ++ List.replicate (2 - (lg_sl ([.ref h, .int (iI (i))])).length) Slot.unset).toArray = ls at hl ⊢
  have hl : lv_has ls 2 [(0, .ref h), (1, .int (iI (i)))] := hl
  refine lv_aload_n hx hb dX2_end_0 rfl (lv_at hl 0 rfl) ?_
  refine va_get (D := (dC, dI)) (ci := 2) (v := .ref tp) (C := "RequestCutter") (T := TX2) (N := 5) hx hb hts (fun w h => List.mem_cons_of_mem _ (inX2 w h)) hown hK hP 0 rfl rfl 0 (by decide) (hts _ (List.mem_cons_of_mem _ tw_75)) (fun _ h9 => h9) rfl dX2_end_1 ?_
  refine lv_iload_n hx hb dX2_end_4 rfl (lv_at hl 1 rfl) ?_
  refine vx_Vi (As := [.int (iI (i))]) (rest := []) (wr := [(h, .inr (2, [.ref tp, .ref ip, .ref wd, .int (iI (lf)), .int (iI (ln))]))]) (ci := 0) (q0 := 0) [1] [0] ⟨hx, hb, hml, hown, hts⟩ (c_X0_keepFirst l dC dI cB cI _ tp tq 10240 tc (by omega) i hi) (cwV 1 hts (gd_V tw_127 tw_128 tw_129 tw_20 tw_130) rfl rfl rfl (by decide +kernel) ⟨Nat.le_of_ble_eq_true rfl, Nat.le_of_ble_eq_true rfl⟩) hK hP hD hS hA rfl rfl rfl rfl (by decide) rfl rfl rfl rfl hl.1 rfl (Nat.le_of_ble_eq_true rfl) dX2_end_5 ⟨Nat.zero_le _, Nat.zero_le _⟩ (fun r u H locs hw hP hD hS => ?_)
  obtain ⟨c1, rfl⟩ : ∃ z, z = u := ⟨_, rfl⟩
  try dsimp only at hw hP hD
  obtain ⟨rfl, hc1⟩ := hw
  have hP : va_P (dC, dI) vwCl [(h, .inr (2, [.ref tp, .ref ip, .ref wd, .int (iI (lf)), .int (iI (ln))])), (tp, .inr (0, [.int (iI (((10240 : Nat) : Int))), .ref tq, .int (iI (c1))]))] H := hP.sub [0, 1] rfl
  have hD : va_D A [(h, .inr (2, [.ref tp, .ref ip, .ref wd, .int (iI (lf)), .int (iI (ln))])), (tp, .inr (0, [.int (iI (((10240 : Nat) : Int))), .ref tq, .int (iI (c1))]))] := hD.sub [0, 1] (by decide) rfl
  obtain ⟨c2, hc2⟩ : ∃ c2 : Nat, c2 = (if 0 ≤ i ∧ i ≤ (tc : Int) then i.toNat else tc) := ⟨_, rfl⟩
  have hc3 : c1 = (c2 : Int) := by rw [hc1, hc2]; by_cases q : 0 ≤ i ∧ i ≤ (tc : Int); rw [if_pos q, if_pos q]; omega; rw [if_neg q, if_neg q]
  subst hc3
  exact W.zret (v := iI (if 0 ≤ i ∧ i ≤ (tc : Int) then 1 else 0)) hx hb hr nw_if (fun t ht hW => ⟨⟨iI (if 0 ≤ i ∧ i ≤ (tc : Int) then 1 else 0), c2, rfl, ⟨rfl, hc2⟩, by rw [ht]; exact hP, va_K.moved hW.alike hK, hD⟩, hS.F ht⟩) hS.2.2 dX2_end_8
set_option maxHeartbeats 4000000 in
set_option maxRecDepth 100000 in
/-- drop(n) -/
theorem c_X2_drop (l : Launch) (dC : Nat → ClassId) (dI : Nat → Nat → Nat) (cB cI : ClassId) (sz : Nat) (h tp ip wd : Nat) (lf ln : Int) (iq il n : Nat) (f : Nat → Int32) (hc : n ≤ il) (hn : il ≤ 65536) (hfit : sb_Fit f) (i : Int) (hi : -2147483648 ≤ i ∧ i ≤ 2147483647) : Met l yX2_drop wX2_drop ({ frames := 2, cells := 0, slots := 0, locals := 69 }) (va_Pc [.ref h, .int (iI (i))] (vx_B (dC, dI) vwCl [(cB, .byte), (cI, .int)] [(h, .inr (2, [.ref tp, .ref ip, .ref wd, .int (iI (lf)), .int (iI (ln))])), (ip, .inr (0, [.int (iI (((65536 : Nat) : Int))), .ref iq, .int (iI ((n : Int)))])), (iq, .inl (cB, il, .inl (f)))] sz)) (va_Qi (fun (r : Int32) (u : (Nat → Int32) × Nat) => r = iI (if 0 ≤ i ∧ i ≤ (n : Int) then 1 else 0) ∧ sb_Fit u.1 ∧ (0 ≤ i ∧ i ≤ (n : Int) → u.2 = n - i.toNat ∧ ∀ j, j < n - i.toNat → u.1 j = f (i.toNat + j)) ∧ (¬ (0 ≤ i ∧ i ≤ (n : Int)) → u = (f, n))) (fun (u : (Nat → Int32) × Nat) => vx_E (dC, dI) vwCl [(cB, .byte), (cI, .int)] (va_A [(h, .inr (2, [.ref tp, .ref ip, .ref wd, .int (iI (lf)), .int (iI (ln))])), (ip, .inr (0, [.int (iI (((65536 : Nat) : Int))), .ref iq, .int (iI ((n : Int)))])), (iq, .inl (cB, il, .inl (f)))] sz) [(h, .inr (2, [.ref tp, .ref ip, .ref wd, .int (iI (lf)), .int (iI (ln))])), (ip, .inr (0, [.int (iI (((65536 : Nat) : Int))), .ref iq, .int (iI ((u.2 : Int)))])), (iq, .inl (cB, il, .inl (u.1)))]) (va_A [(h, .inr (2, [.ref tp, .ref ip, .ref wd, .int (iI (lf)), .int (iI (ln))])), (ip, .inr (0, [.int (iI (((65536 : Nat) : Int))), .ref iq, .int (iI ((n : Int)))])), (iq, .inl (cB, il, .inl (f)))] sz)) (0) (0) (va_A [(h, .inr (2, [.ref tp, .ref ip, .ref wd, .int (iI (lf)), .int (iI (ln))])), (ip, .inr (0, [.int (iI (((65536 : Nat) : Int))), .ref iq, .int (iI ((n : Int)))])), (iq, .inl (cB, il, .inl (f)))] sz) := by
  refine Met.ofW (cc := cX2_drop) (maxL := 2) (ret := (some .boolean)) (by decide) rfl ?_
  intro p e s m args below meth c s₁ B hml hv
  obtain ⟨rfl, hsz, hP, hK, hD0⟩ := hv
  have hx := B.exec
  have hb := B.bytes
  have hr := B.returns
  have hts := atoms_spec (ws := wX2_drop) B.pre
  have hown : s.vm.findClass "RequestCutter" = some m.cls := findClass_of_methodNamed B.named
  have hlocks := B.notSynchronized
  subst hsz
  have hD := hD0.self (sz := s.heap.size)
  generalize hAe : va_A [(h, .inr (2, [.ref tp, .ref ip, .ref wd, .int (iI (lf)), .int (iI (ln))])), (ip, .inr (0, [.int (iI (((65536 : Nat) : Int))), .ref iq, .int (iI ((n : Int)))])), (iq, .inl (cB, il, .inl (f)))] s.heap.size = A at hD ⊢
  have hA : ∀ q : Nat, s.heap.size ≤ q → A q := fun q h => by rw [← hAe]; exact Or.inr h
  have hS : va_S A s.heap s.heap [] := va_S.rf
  have hP : va_P (dC, dI) vwCl [(h, .inr (2, [.ref tp, .ref ip, .ref wd, .int (iI (lf)), .int (iI (ln))])), (ip, .inr (0, [.int (iI (((65536 : Nat) : Int))), .ref iq, .int (iI ((n : Int)))])), (iq, .inl (cB, il, .inl (f)))] s.heap := hP
  have hl := lv_entry ([.ref h, .int (iI (i))]) (n := 2) (Nat.le_of_ble_eq_true rfl)
  rw [lg_entry_eq]
  generalize (lg_sl ([.ref h, .int (iI (i))]) ++ List.replicate (2 - (lg_sl ([.ref h, .int (iI (i))])).length) Slot.unset).toArray = ls at hl ⊢
  have hl : lv_has ls 2 [(0, .ref h), (1, .int (iI (i)))] := hl
  refine lv_aload_n hx hb dX2_drop_0 rfl (lv_at hl 0 rfl) ?_
  refine va_get (D := (dC, dI)) (ci := 2) (v := .ref ip) (C := "RequestCutter") (T := TX2) (N := 5) hx hb hts (fun w h => List.mem_cons_of_mem _ (inX2 w h)) hown hK hP 0 rfl rfl 1 (by decide) (hts _ (List.mem_cons_of_mem _ tw_76)) (fun _ h9 => h9) rfl dX2_drop_1 ?_
  refine lv_iload_n hx hb dX2_drop_4 rfl (lv_at hl 1 rfl) ?_
  refine vx_Vi (As := [.int (iI (i))]) (rest := []) (wr := [(h, .inr (2, [.ref tp, .ref ip, .ref wd, .int (iI (lf)), .int (iI (ln))]))]) (ci := 0) (q0 := 0) [1, 2] [0] ⟨hx, hb, hml, hown, hts⟩ (c_X0_removeFirst l dC dI cB cI _ ip iq 65536 il n f hc hn (by omega) hfit i hi) (cwV 1 hts (gd_V tw_222 tw_223 tw_224 tw_20 tw_225) rfl rfl rfl (by decide +kernel) ⟨Nat.le_of_ble_eq_true rfl, Nat.le_of_ble_eq_true rfl⟩) hK hP hD hS hA rfl rfl rfl rfl (by decide) rfl rfl rfl rfl hl.1 rfl (Nat.le_of_ble_eq_true rfl) dX2_drop_5 ⟨Nat.zero_le _, Nat.zero_le _⟩ (fun r u H locs hw hP hD hS => ?_)
  obtain ⟨f1, n1⟩ := u
  try dsimp only at hw hP hD
  obtain ⟨rfl, hfit1, hok1, hno1⟩ := hw
  have hP : va_P (dC, dI) vwCl [(h, .inr (2, [.ref tp, .ref ip, .ref wd, .int (iI (lf)), .int (iI (ln))])), (ip, .inr (0, [.int (iI (((65536 : Nat) : Int))), .ref iq, .int (iI ((n1 : Int)))])), (iq, .inl (cB, il, .inl (f1)))] H := hP.sub [0, 1, 2] rfl
  have hD : va_D A [(h, .inr (2, [.ref tp, .ref ip, .ref wd, .int (iI (lf)), .int (iI (ln))])), (ip, .inr (0, [.int (iI (((65536 : Nat) : Int))), .ref iq, .int (iI ((n1 : Int)))])), (iq, .inl (cB, il, .inl (f1)))] := hD.sub [0, 1, 2] (by decide) rfl
  exact W.zret (v := iI (if 0 ≤ i ∧ i ≤ (n : Int) then 1 else 0)) hx hb hr nw_if (fun t ht hW => ⟨⟨iI (if 0 ≤ i ∧ i ≤ (n : Int) then 1 else 0), (f1, n1), rfl, ⟨rfl, hfit1, hok1, hno1⟩, by rw [ht]; exact hP, va_K.moved hW.alike hK, hD⟩, hS.F ht⟩) hS.2.2 dX2_drop_8
set_option maxHeartbeats 4000000 in
set_option maxRecDepth 100000 in
/-- feed(a, b, c, d, e) -/
theorem c_X2_feed (l : Launch) (dC : Nat → ClassId) (dI : Nat → Nat → Nat) (cB cI : ClassId) (sz : Nat) (h tp ip wd : Nat) (lf ln : Int) (tq tl tc : Nat) (tf : Nat → Int32) (hc : tc ≤ tl) (hn : tl ≤ 10240) (hfit : sb_Fit tf) (x1 x2 x3 x4 x5 : Int32) (mc ms : Nat) (hroom : tc + 20 ≤ 10240 ∧ tl < tc + 20 → 1 ≤ mc ∧ gL 10240 tl (tc + 20) ≤ ms) : Met l yX2_feed wX2_feed ({ frames := 3, cells := mc, slots := ms, locals := 93 }) (va_Pc [.ref h, .int (x1), .int (x2), .int (x3), .int (x4), .int (x5)] (vx_B (dC, dI) vwCl [(cB, .byte), (cI, .int)] [(h, .inr (2, [.ref tp, .ref ip, .ref wd, .int (iI (lf)), .int (iI (ln))])), (tp, .inr (0, [.int (iI (((10240 : Nat) : Int))), .ref tq, .int (iI ((tc : Int)))])), (tq, .inl (cB, tl, .inl (tf)))] sz)) (va_Qi (fun (r : Int32) (u : Nat × Nat × Nat × (Nat → Int32)) => r = iI (if tc + 20 ≤ 10240 then 1 else 0) ∧ sb_Fit u.2.2.2 ∧ (u.2.2.1 ≤ u.2.1 ∧ u.2.1 ≤ 10240) ∧ ((¬ (tc + 20 ≤ 10240 ∧ tl < tc + 20) ∧ u.2.1 = tl) ∨ ((tc + 20 ≤ 10240 ∧ tl < tc + 20) ∧ u.2.1 = gL 10240 tl (tc + 20))) ∧ (∀ j, j < tc → u.2.2.2 j = tf j) ∧ (tc + 20 ≤ 10240 → u.2.2.1 = tc + 20 ∧ ∀ j, j < 20 → u.2.2.2 (tc + j) = (fB x1 x2 x3 x4 x5) j) ∧ (¬ tc + 20 ≤ 10240 → u.2.2.1 = tc)) (fun (u : Nat × Nat × Nat × (Nat → Int32)) => vx_E (dC, dI) vwCl [(cB, .byte), (cI, .int)] (va_A [(h, .inr (2, [.ref tp, .ref ip, .ref wd, .int (iI (lf)), .int (iI (ln))])), (tp, .inr (0, [.int (iI (((10240 : Nat) : Int))), .ref tq, .int (iI ((tc : Int)))])), (tq, .inl (cB, tl, .inl (tf)))] sz) [(h, .inr (2, [.ref tp, .ref ip, .ref wd, .int (iI (lf)), .int (iI (ln))])), (tp, .inr (0, [.int (iI (((10240 : Nat) : Int))), .ref u.1, .int (iI ((u.2.2.1 : Int)))])), (u.1, .inl (cB, u.2.1, .inl (u.2.2.2)))]) (va_A [(h, .inr (2, [.ref tp, .ref ip, .ref wd, .int (iI (lf)), .int (iI (ln))])), (tp, .inr (0, [.int (iI (((10240 : Nat) : Int))), .ref tq, .int (iI ((tc : Int)))])), (tq, .inl (cB, tl, .inl (tf)))] sz)) (mc) (ms) (va_A [(h, .inr (2, [.ref tp, .ref ip, .ref wd, .int (iI (lf)), .int (iI (ln))])), (tp, .inr (0, [.int (iI (((10240 : Nat) : Int))), .ref tq, .int (iI ((tc : Int)))])), (tq, .inl (cB, tl, .inl (tf)))] sz) := by
  refine Met.ofW (cc := cX2_feed) (maxL := 6) (ret := (some .boolean)) (by decide) rfl ?_
  intro p e s m args below meth c s₁ B hml hv
  obtain ⟨rfl, hsz, hP, hK, hD0⟩ := hv
  have hx := B.exec
  have hb := B.bytes
  have hr := B.returns
  have hts := atoms_spec (ws := wX2_feed) B.pre
  have hown : s.vm.findClass "RequestCutter" = some m.cls := findClass_of_methodNamed B.named
  have hlocks := B.notSynchronized
  subst hsz
  have hD := hD0.self (sz := s.heap.size)
  generalize hAe : va_A [(h, .inr (2, [.ref tp, .ref ip, .ref wd, .int (iI (lf)), .int (iI (ln))])), (tp, .inr (0, [.int (iI (((10240 : Nat) : Int))), .ref tq, .int (iI ((tc : Int)))])), (tq, .inl (cB, tl, .inl (tf)))] s.heap.size = A at hD ⊢
  have hA : ∀ q : Nat, s.heap.size ≤ q → A q := fun q h => by rw [← hAe]; exact Or.inr h
  have hS : va_S A s.heap s.heap [] := va_S.rf
  have hP : va_P (dC, dI) vwCl [(h, .inr (2, [.ref tp, .ref ip, .ref wd, .int (iI (lf)), .int (iI (ln))])), (tp, .inr (0, [.int (iI (((10240 : Nat) : Int))), .ref tq, .int (iI ((tc : Int)))])), (tq, .inl (cB, tl, .inl (tf)))] s.heap := hP
  have hl := lv_entry ([.ref h, .int (x1), .int (x2), .int (x3), .int (x4), .int (x5)]) (n := 6) (Nat.le_of_ble_eq_true rfl)
  rw [lg_entry_eq]
  generalize (lg_sl ([.ref h, .int (x1), .int (x2), .int (x3), .int (x4), .int (x5)]) ++ List.replicate (6 - (lg_sl ([.ref h, .int (x1), .int (x2), .int (x3), .int (x4), .int (x5)])).length) Slot.unset).toArray = ls at hl ⊢
  have hl : lv_has ls 6 [(0, .ref h), (1, .int (x1)), (2, .int (x2)), (3, .int (x3)), (4, .int (x4)), (5, .int (x5))] := hl
  refine lv_aload_n hx hb dX2_feed_0 rfl (lv_at hl 0 rfl) ?_
  refine va_get (D := (dC, dI)) (ci := 2) (v := .ref tp) (C := "RequestCutter") (T := TX2) (N := 5) hx hb hts (fun w h => List.mem_cons_of_mem _ (inX2 w h)) hown hK hP 0 rfl rfl 0 (by decide) (hts _ (List.mem_cons_of_mem _ tw_75)) (fun _ h9 => h9) rfl dX2_feed_1 ?_
  refine lv_bipush (v := iI (20)) hx hb dX2_feed_4 (by decide) ?_
  have h20 : tc + (20 : Int).toNat = tc + 20 := rfl
  refine vx_Vi (As := [.int (iI (20))]) (rest := []) (wr := [(h, .inr (2, [.ref tp, .ref ip, .ref wd, .int (iI (lf)), .int (iI (ln))]))]) (ci := 0) (q0 := 0) [1, 2] [0] ⟨hx, hb, hml, hown, hts⟩ (c_X0_makeRoom l dC dI cB cI _ tp tq 10240 tl tc tf hc (by omega) (by omega) hn hfit 20 (by omega) mc ms (fun z => hroom (by omega))) (cwV 1 hts (gd_V tw_95 tw_96 tw_97 tw_20 tw_98) rfl rfl rfl (by decide +kernel) ⟨Nat.le_of_ble_eq_true rfl, Nat.le_of_ble_eq_true rfl⟩) hK hP hD hS hA rfl rfl rfl rfl (by decide) rfl rfl rfl rfl hl.1 rfl (Nat.le_of_ble_eq_true rfl) dX2_feed_6 ⟨by show 0 + mc ≤ mc; omega, by show 0 + ms ≤ ms; omega⟩ (fun r u H locs hw hP hD hS => ?_)
  obtain ⟨q1, len1, f0⟩ := u
  try dsimp only at hw hP hD
  obtain ⟨hr1, ⟨hfit0, hk0⟩, hl1, hok1, hlim1⟩ := hw
  have hP : va_P (dC, dI) vwCl [(h, .inr (2, [.ref tp, .ref ip, .ref wd, .int (iI (lf)), .int (iI (ln))])), (tp, .inr (0, [.int (iI (((10240 : Nat) : Int))), .ref q1, .int (iI ((tc : Int)))])), (q1, .inl (cB, len1, .inl (f0)))] H := hP.sub [0, 1, 2] rfl
  have hD : va_D A [(h, .inr (2, [.ref tp, .ref ip, .ref wd, .int (iI (lf)), .int (iI (ln))])), (tp, .inr (0, [.int (iI (((10240 : Nat) : Int))), .ref q1, .int (iI ((tc : Int)))])), (q1, .inl (cB, len1, .inl (f0)))] := hD.sub [0, 1, 2] (by decide) rfl
  obtain ⟨b1, hb1, rfl⟩ := bo_of hr1
  have hl2 : (¬ (tc + 20 ≤ 10240 ∧ tl < tc + 20) ∧ len1 = tl) ∨ ((tc + 20 ≤ 10240 ∧ tl < tc + 20) ∧ len1 = gL 10240 tl (tc + 20)) := by
    by_cases q : tc + 20 ≤ 10240 ∧ tl < tc + 20
    · exact Or.inr ⟨q, by rw [hl1, if_pos (by omega)]; rfl⟩
    · exact Or.inl ⟨q, by rw [hl1, if_neg (by omega)]⟩
  have hd0 : ∀ j, j < 0 → f0 (tc + j) = fB x1 x2 x3 x4 x5 j := fun j hj => absurd hj (Nat.not_lt_zero j)
  refine W.widen (k := mc) (n := ms) (by omega) (by omega) ?_
  refine lx_if_ne (a := b1) (tgt := 14) hx hb dX2_feed_9 (by decide) (by omega) (fun cq1 => ?_) (fun cq1 => ?_)
  · refine lv_aload_n hx hb dX2_feed_14 rfl (lv_at hl 0 rfl) ?_
    refine va_get (D := (dC, dI)) (ci := 2) (v := .ref tp) (C := "RequestCutter") (T := TX2) (N := 5) hx hb hts (fun w h => List.mem_cons_of_mem _ (inX2 w h)) hown hK hP 0 rfl rfl 0 (by decide) (hts _ (List.mem_cons_of_mem _ tw_75)) (fun _ h9 => h9) rfl dX2_feed_15 ?_
    refine lv_iload_n hx hb dX2_feed_18 rfl (lv_at hl 1 rfl) ?_
    have hok2 := hok1 (by omega)
    refine vx_Vv (As := [.int (x1)]) (rest := []) (wr := [(h, .inr (2, [.ref tp, .ref ip, .ref wd, .int (iI (lf)), .int (iI (ln))]))]) (ci := 0) (q0 := 0) [1, 2] [0] ⟨hx, hb, hml, hown, hts⟩ (c_X0_addNumber l dC dI cB cI _ tp q1 10240 len1 (tc) f0 (by omega) (by omega) (by omega) hfit0 x1) (cwV 1 hts (gd_V tw_119 tw_120 tw_121 tw_20 tw_122) rfl rfl rfl (by decide +kernel) ⟨Nat.le_of_ble_eq_true rfl, Nat.le_of_ble_eq_true rfl⟩) hK hP hD hS hA rfl rfl rfl rfl (by decide) rfl rfl rfl rfl hl.1 rfl (Nat.le_of_ble_eq_true rfl) dX2_feed_19 ⟨Nat.le_refl _, Nat.le_refl _⟩ (fun u H locs hw hP hD hS => ?_)
    obtain ⟨f1, rfl⟩ : ∃ z, z = u := ⟨_, rfl⟩
    try dsimp only at hw hP hD
    obtain ⟨hfit1, hk1, e0, e1, e2, e3⟩ := hw
    have hP : va_P (dC, dI) vwCl [(h, .inr (2, [.ref tp, .ref ip, .ref wd, .int (iI (lf)), .int (iI (ln))])), (tp, .inr (0, [.int (iI (((10240 : Nat) : Int))), .ref q1, .int (iI (((tc + 4 : Nat) : Int)))])), (q1, .inl (cB, len1, .inl (f1)))] H := hP.sub [0, 1, 2] rfl
    have hD : va_D A [(h, .inr (2, [.ref tp, .ref ip, .ref wd, .int (iI (lf)), .int (iI (ln))])), (tp, .inr (0, [.int (iI (((10240 : Nat) : Int))), .ref q1, .int (iI (((tc + 4 : Nat) : Int)))])), (q1, .inl (cB, len1, .inl (f1)))] := hD.sub [0, 1, 2] (by decide) rfl
    have hd1 := fd_step hd0 (fun j hj => hk1 j (by omega)) e0 e1 e2 e3
    refine lv_aload_n hx hb dX2_feed_22 rfl (lv_at hl 0 rfl) ?_
    refine va_get (D := (dC, dI)) (ci := 2) (v := .ref tp) (C := "RequestCutter") (T := TX2) (N := 5) hx hb hts (fun w h => List.mem_cons_of_mem _ (inX2 w h)) hown hK hP 0 rfl rfl 0 (by decide) (hts _ (List.mem_cons_of_mem _ tw_75)) (fun _ h9 => h9) rfl dX2_feed_23 ?_
    refine lv_iload_n hx hb dX2_feed_26 rfl (lv_at hl 2 rfl) ?_
    refine vx_Vv (As := [.int (x2)]) (rest := []) (wr := [(h, .inr (2, [.ref tp, .ref ip, .ref wd, .int (iI (lf)), .int (iI (ln))]))]) (ci := 0) (q0 := 0) [1, 2] [0] ⟨hx, hb, hml, hown, hts⟩ (c_X0_addNumber l dC dI cB cI _ tp q1 10240 len1 (tc + 4) f1 (by omega) (by omega) (by omega) hfit1 x2) (cwV 1 hts (gd_V tw_119 tw_120 tw_121 tw_20 tw_122) rfl rfl rfl (by decide +kernel) ⟨Nat.le_of_ble_eq_true rfl, Nat.le_of_ble_eq_true rfl⟩) hK hP hD hS hA rfl rfl rfl rfl (by decide) rfl rfl rfl rfl hl.1 rfl (Nat.le_of_ble_eq_true rfl) dX2_feed_27 ⟨Nat.le_refl _, Nat.le_refl _⟩ (fun u H locs hw hP hD hS => ?_)
    obtain ⟨f2, rfl⟩ : ∃ z, z = u := ⟨_, rfl⟩
    try dsimp only at hw hP hD
    obtain ⟨hfit2, hk2, e0, e1, e2, e3⟩ := hw
    have hP : va_P (dC, dI) vwCl [(h, .inr (2, [.ref tp, .ref ip, .ref wd, .int (iI (lf)), .int (iI (ln))])), (tp, .inr (0, [.int (iI (((10240 : Nat) : Int))), .ref q1, .int (iI (((tc + 4 + 4 : Nat) : Int)))])), (q1, .inl (cB, len1, .inl (f2)))] H := hP.sub [0, 1, 2] rfl
    have hD : va_D A [(h, .inr (2, [.ref tp, .ref ip, .ref wd, .int (iI (lf)), .int (iI (ln))])), (tp, .inr (0, [.int (iI (((10240 : Nat) : Int))), .ref q1, .int (iI (((tc + 4 + 4 : Nat) : Int)))])), (q1, .inl (cB, len1, .inl (f2)))] := hD.sub [0, 1, 2] (by decide) rfl
    have hd2 := fd_step hd1 (fun j hj => hk2 j (by omega)) e0 e1 e2 e3
    refine lv_aload_n hx hb dX2_feed_30 rfl (lv_at hl 0 rfl) ?_
    refine va_get (D := (dC, dI)) (ci := 2) (v := .ref tp) (C := "RequestCutter") (T := TX2) (N := 5) hx hb hts (fun w h => List.mem_cons_of_mem _ (inX2 w h)) hown hK hP 0 rfl rfl 0 (by decide) (hts _ (List.mem_cons_of_mem _ tw_75)) (fun _ h9 => h9) rfl dX2_feed_31 ?_
    refine lv_iload_n hx hb dX2_feed_34 rfl (lv_at hl 3 rfl) ?_
    refine vx_Vv (As := [.int (x3)]) (rest := []) (wr := [(h, .inr (2, [.ref tp, .ref ip, .ref wd, .int (iI (lf)), .int (iI (ln))]))]) (ci := 0) (q0 := 0) [1, 2] [0] ⟨hx, hb, hml, hown, hts⟩ (c_X0_addNumber l dC dI cB cI _ tp q1 10240 len1 (tc + 4 + 4) f2 (by omega) (by omega) (by omega) hfit2 x3) (cwV 1 hts (gd_V tw_119 tw_120 tw_121 tw_20 tw_122) rfl rfl rfl (by decide +kernel) ⟨Nat.le_of_ble_eq_true rfl, Nat.le_of_ble_eq_true rfl⟩) hK hP hD hS hA rfl rfl rfl rfl (by decide) rfl rfl rfl rfl hl.1 rfl (Nat.le_of_ble_eq_true rfl) dX2_feed_35 ⟨Nat.le_refl _, Nat.le_refl _⟩ (fun u H locs hw hP hD hS => ?_)
    obtain ⟨f3, rfl⟩ : ∃ z, z = u := ⟨_, rfl⟩
    try dsimp only at hw hP hD
    obtain ⟨hfit3, hk3, e0, e1, e2, e3⟩ := hw
    have hP : va_P (dC, dI) vwCl [(h, .inr (2, [.ref tp, .ref ip, .ref wd, .int (iI (lf)), .int (iI (ln))])), (tp, .inr (0, [.int (iI (((10240 : Nat) : Int))), .ref q1, .int (iI (((tc + 4 + 4 + 4 : Nat) : Int)))])), (q1, .inl (cB, len1, .inl (f3)))] H := hP.sub [0, 1, 2] rfl
    have hD : va_D A [(h, .inr (2, [.ref tp, .ref ip, .ref wd, .int (iI (lf)), .int (iI (ln))])), (tp, .inr (0, [.int (iI (((10240 : Nat) : Int))), .ref q1, .int (iI (((tc + 4 + 4 + 4 : Nat) : Int)))])), (q1, .inl (cB, len1, .inl (f3)))] := hD.sub [0, 1, 2] (by decide) rfl
    have hd3 := fd_step hd2 (fun j hj => hk3 j (by omega)) e0 e1 e2 e3
    refine lv_aload_n hx hb dX2_feed_38 rfl (lv_at hl 0 rfl) ?_
    refine va_get (D := (dC, dI)) (ci := 2) (v := .ref tp) (C := "RequestCutter") (T := TX2) (N := 5) hx hb hts (fun w h => List.mem_cons_of_mem _ (inX2 w h)) hown hK hP 0 rfl rfl 0 (by decide) (hts _ (List.mem_cons_of_mem _ tw_75)) (fun _ h9 => h9) rfl dX2_feed_39 ?_
    refine lv_iload hx hb dX2_feed_42 (lv_at hl 4 rfl) ?_
    refine vx_Vv (As := [.int (x4)]) (rest := []) (wr := [(h, .inr (2, [.ref tp, .ref ip, .ref wd, .int (iI (lf)), .int (iI (ln))]))]) (ci := 0) (q0 := 0) [1, 2] [0] ⟨hx, hb, hml, hown, hts⟩ (c_X0_addNumber l dC dI cB cI _ tp q1 10240 len1 (tc + 4 + 4 + 4) f3 (by omega) (by omega) (by omega) hfit3 x4) (cwV 1 hts (gd_V tw_119 tw_120 tw_121 tw_20 tw_122) rfl rfl rfl (by decide +kernel) ⟨Nat.le_of_ble_eq_true rfl, Nat.le_of_ble_eq_true rfl⟩) hK hP hD hS hA rfl rfl rfl rfl (by decide) rfl rfl rfl rfl hl.1 rfl (Nat.le_of_ble_eq_true rfl) dX2_feed_44 ⟨Nat.le_refl _, Nat.le_refl _⟩ (fun u H locs hw hP hD hS => ?_)
    obtain ⟨f4, rfl⟩ : ∃ z, z = u := ⟨_, rfl⟩
    try dsimp only at hw hP hD
    obtain ⟨hfit4, hk4, e0, e1, e2, e3⟩ := hw
    have hP : va_P (dC, dI) vwCl [(h, .inr (2, [.ref tp, .ref ip, .ref wd, .int (iI (lf)), .int (iI (ln))])), (tp, .inr (0, [.int (iI (((10240 : Nat) : Int))), .ref q1, .int (iI (((tc + 4 + 4 + 4 + 4 : Nat) : Int)))])), (q1, .inl (cB, len1, .inl (f4)))] H := hP.sub [0, 1, 2] rfl
    have hD : va_D A [(h, .inr (2, [.ref tp, .ref ip, .ref wd, .int (iI (lf)), .int (iI (ln))])), (tp, .inr (0, [.int (iI (((10240 : Nat) : Int))), .ref q1, .int (iI (((tc + 4 + 4 + 4 + 4 : Nat) : Int)))])), (q1, .inl (cB, len1, .inl (f4)))] := hD.sub [0, 1, 2] (by decide) rfl
    have hd4 := fd_step hd3 (fun j hj => hk4 j (by omega)) e0 e1 e2 e3
    refine lv_aload_n hx hb dX2_feed_47 rfl (lv_at hl 0 rfl) ?_
    refine va_get (D := (dC, dI)) (ci := 2) (v := .ref tp) (C := "RequestCutter") (T := TX2) (N := 5) hx hb hts (fun w h => List.mem_cons_of_mem _ (inX2 w h)) hown hK hP 0 rfl rfl 0 (by decide) (hts _ (List.mem_cons_of_mem _ tw_75)) (fun _ h9 => h9) rfl dX2_feed_48 ?_
    refine lv_iload hx hb dX2_feed_51 (lv_at hl 5 rfl) ?_
    refine vx_Vv (As := [.int (x5)]) (rest := []) (wr := [(h, .inr (2, [.ref tp, .ref ip, .ref wd, .int (iI (lf)), .int (iI (ln))]))]) (ci := 0) (q0 := 0) [1, 2] [0] ⟨hx, hb, hml, hown, hts⟩ (c_X0_addNumber l dC dI cB cI _ tp q1 10240 len1 (tc + 4 + 4 + 4 + 4) f4 (by omega) (by omega) (by omega) hfit4 x5) (cwV 1 hts (gd_V tw_119 tw_120 tw_121 tw_20 tw_122) rfl rfl rfl (by decide +kernel) ⟨Nat.le_of_ble_eq_true rfl, Nat.le_of_ble_eq_true rfl⟩) hK hP hD hS hA rfl rfl rfl rfl (by decide) rfl rfl rfl rfl hl.1 rfl (Nat.le_of_ble_eq_true rfl) dX2_feed_53 ⟨Nat.le_refl _, Nat.le_refl _⟩ (fun u H locs hw hP hD hS => ?_)
    obtain ⟨f5, rfl⟩ : ∃ z, z = u := ⟨_, rfl⟩
    try dsimp only at hw hP hD
    obtain ⟨hfit5, hk5, e0, e1, e2, e3⟩ := hw
    have hP : va_P (dC, dI) vwCl [(h, .inr (2, [.ref tp, .ref ip, .ref wd, .int (iI (lf)), .int (iI (ln))])), (tp, .inr (0, [.int (iI (((10240 : Nat) : Int))), .ref q1, .int (iI (((tc + 4 + 4 + 4 + 4 + 4 : Nat) : Int)))])), (q1, .inl (cB, len1, .inl (f5)))] H := hP.sub [0, 1, 2] rfl
    have hD : va_D A [(h, .inr (2, [.ref tp, .ref ip, .ref wd, .int (iI (lf)), .int (iI (ln))])), (tp, .inr (0, [.int (iI (((10240 : Nat) : Int))), .ref q1, .int (iI (((tc + 4 + 4 + 4 + 4 + 4 : Nat) : Int)))])), (q1, .inl (cB, len1, .inl (f5)))] := hD.sub [0, 1, 2] (by decide) rfl
    have hd5 := fd_step hd4 (fun j hj => hk5 j (by omega)) e0 e1 e2 e3
    refine lv_iconst (v := iI (1)) hx hb dX2_feed_56 rfl ?_
    exact W.zret (v := iI (1)) hx hb hr (by rfl) (fun t ht hW => ⟨⟨iI (1), (q1, len1, tc + 4 + 4 + 4 + 4 + 4, f5), rfl, ⟨by rw [if_pos (by omega)], hfit5, ⟨by show tc + 4 + 4 + 4 + 4 + 4 ≤ len1; omega, hlim1⟩, hl2, fun j hj => by show f5 j = _; rw [hk5 j (by omega), hk4 j (by omega), hk3 j (by omega), hk2 j (by omega), hk1 j (by omega), hk0 j hj], fun _ => ⟨rfl, hd5⟩, fun z => by omega⟩, by rw [ht]; exact hP, va_K.moved hW.alike hK, hD⟩, hS.F ht⟩) hS.2.2 dX2_feed_57
  · refine lv_iconst (v := iI (0)) hx hb dX2_feed_12 rfl ?_
    exact W.zret (v := iI (0)) hx hb hr (by rfl) (fun t ht hW => ⟨⟨iI (0), (q1, len1, tc, f0), rfl, ⟨by rw [if_neg (by omega)], hfit0, ⟨by show tc ≤ len1; omega, hlim1⟩, hl2, hk0, fun z => by omega, fun _ => rfl⟩, by rw [ht]; exact hP, va_K.moved hW.alike hK, hD⟩, hS.F ht⟩) hS.2.2 dX2_feed_13
set_option maxHeartbeats 4000000 in
set_option maxRecDepth 100000 in
/-- arrive() -/
theorem c_X2_arrive (l : Launch) (dC : Nat → ClassId) (dI : Nat → Nat → Nat) (cB cI : ClassId) (sz : Nat) (h tp ip wd : Nat) (lf ln : Int) (tq tl tc : Nat) (tf : Nat → Int32) (htc : tc ≤ tl) (htn : tl ≤ 10240) (htf : sb_Fit tf) (iq il n : Nat) (f : Nat → Int32) (hc : n ≤ il) (hn : il ≤ 65536) (hfit : sb_Fit f) (mc ms : Nat) (hroom : n + tc ≤ 65536 ∧ il < n + tc → 1 ≤ mc ∧ gL 65536 il (n + tc) ≤ ms) : Met l yX2_arrive wX2_arrive ({ frames := 4, cells := mc, slots := ms, locals := 115 }) (va_Pc [.ref h] (vx_B (dC, dI) vwCl [(cB, .byte), (cI, .int)] [(h, .inr (2, [.ref tp, .ref ip, .ref wd, .int (iI (lf)), .int (iI (ln))])), (tp, .inr (0, [.int (iI (((10240 : Nat) : Int))), .ref tq, .int (iI ((tc : Int)))])), (tq, .inl (cB, tl, .inl (tf))), (ip, .inr (0, [.int (iI (((65536 : Nat) : Int))), .ref iq, .int (iI ((n : Int)))])), (iq, .inl (cB, il, .inl (f)))] sz)) (va_Qi (fun (r : Int32) (u : Nat × Nat × Nat × (Nat → Int32)) => r = iI (if n + tc ≤ 65536 then ((n + tc : Nat) : Int) else -1) ∧ sb_Fit u.2.2.2 ∧ (u.2.2.1 ≤ u.2.1 ∧ u.2.1 ≤ 65536) ∧ ((¬ (n + tc ≤ 65536 ∧ il < n + tc) ∧ u.2.1 = il) ∨ ((n + tc ≤ 65536 ∧ il < n + tc) ∧ u.2.1 = gL 65536 il (n + tc))) ∧ (∀ j, j < n → u.2.2.2 j = f j) ∧ (n + tc ≤ 65536 → u.2.2.1 = n + tc ∧ ∀ j, j < tc → u.2.2.2 (n + j) = tf j) ∧ (¬ n + tc ≤ 65536 → u.2.2.1 = n)) (fun (u : Nat × Nat × Nat × (Nat → Int32)) => vx_E (dC, dI) vwCl [(cB, .byte), (cI, .int)] (va_A [(h, .inr (2, [.ref tp, .ref ip, .ref wd, .int (iI (lf)), .int (iI (ln))])), (tp, .inr (0, [.int (iI (((10240 : Nat) : Int))), .ref tq, .int (iI ((tc : Int)))])), (tq, .inl (cB, tl, .inl (tf))), (ip, .inr (0, [.int (iI (((65536 : Nat) : Int))), .ref iq, .int (iI ((n : Int)))])), (iq, .inl (cB, il, .inl (f)))] sz) [(h, .inr (2, [.ref tp, .ref ip, .ref wd, .int (iI (lf)), .int (iI (ln))])), (tp, .inr (0, [.int (iI (((10240 : Nat) : Int))), .ref tq, .int (iI (0))])), (tq, .inl (cB, tl, .inl (tf))), (ip, .inr (0, [.int (iI (((65536 : Nat) : Int))), .ref u.1, .int (iI ((u.2.2.1 : Int)))])), (u.1, .inl (cB, u.2.1, .inl (u.2.2.2)))]) (va_A [(h, .inr (2, [.ref tp, .ref ip, .ref wd, .int (iI (lf)), .int (iI (ln))])), (tp, .inr (0, [.int (iI (((10240 : Nat) : Int))), .ref tq, .int (iI ((tc : Int)))])), (tq, .inl (cB, tl, .inl (tf))), (ip, .inr (0, [.int (iI (((65536 : Nat) : Int))), .ref iq, .int (iI ((n : Int)))])), (iq, .inl (cB, il, .inl (f)))] sz)) (mc) (ms) (va_A [(h, .inr (2, [.ref tp, .ref ip, .ref wd, .int (iI (lf)), .int (iI (ln))])), (tp, .inr (0, [.int (iI (((10240 : Nat) : Int))), .ref tq, .int (iI ((tc : Int)))])), (tq, .inl (cB, tl, .inl (tf))), (ip, .inr (0, [.int (iI (((65536 : Nat) : Int))), .ref iq, .int (iI ((n : Int)))])), (iq, .inl (cB, il, .inl (f)))] sz) := by
  refine Met.ofW (cc := cX2_arrive) (maxL := 2) (ret := (some .int)) (by decide) rfl ?_
  intro p e s m args below meth c s₁ B hml hv
  obtain ⟨rfl, hsz, hP, hK, hD0⟩ := hv
  have hx := B.exec
  have hb := B.bytes
  have hr := B.returns
  have hts := atoms_spec (ws := wX2_arrive) B.pre
  have hown : s.vm.findClass "RequestCutter" = some m.cls := findClass_of_methodNamed B.named
  have hlocks := B.notSynchronized
  subst hsz
  have hD := hD0.self (sz := s.heap.size)
  generalize hAe : va_A [(h, .inr (2, [.ref tp, .ref ip, .ref wd, .int (iI (lf)), .int (iI (ln))])), (tp, .inr (0, [.int (iI (((10240 : Nat) : Int))), .ref tq, .int (iI ((tc : Int)))])), (tq, .inl (cB, tl, .inl (tf))), (ip, .inr (0, [.int (iI (((65536 : Nat) : Int))), .ref iq, .int (iI ((n : Int)))])), (iq, .inl (cB, il, .inl (f)))] s.heap.size = A at hD ⊢
  have hA : ∀ q : Nat, s.heap.size ≤ q → A q := fun q h => by rw [← hAe]; exact Or.inr h
  have hS : va_S A s.heap s.heap [] := va_S.rf
  have hP : va_P (dC, dI) vwCl [(h, .inr (2, [.ref tp, .ref ip, .ref wd, .int (iI (lf)), .int (iI (ln))])), (tp, .inr (0, [.int (iI (((10240 : Nat) : Int))), .ref tq, .int (iI ((tc : Int)))])), (tq, .inl (cB, tl, .inl (tf))), (ip, .inr (0, [.int (iI (((65536 : Nat) : Int))), .ref iq, .int (iI ((n : Int)))])), (iq, .inl (cB, il, .inl (f)))] s.heap := hP
  have hl := lv_entry ([.ref h]) (n := 2) (Nat.le_of_ble_eq_true rfl)
  rw [lg_entry_eq]
  generalize (lg_sl ([.ref h]) ++ List.replicate (2 - (lg_sl ([.ref h])).length) Slot.unset).toArray = ls at hl ⊢
  have hl : lv_has ls 2 [(0, .ref h)] := hl
  refine lv_aload_n hx hb dX2_arrive_0 rfl (lv_at hl 0 rfl) ?_
  refine va_get (D := (dC, dI)) (ci := 2) (v := .ref ip) (C := "RequestCutter") (T := TX2) (N := 5) hx hb hts (fun w h => List.mem_cons_of_mem _ (inX2 w h)) hown hK hP 0 rfl rfl 1 (by decide) (hts _ (List.mem_cons_of_mem _ tw_76)) (fun _ h9 => h9) rfl dX2_arrive_1 ?_
  refine lv_aload_n hx hb dX2_arrive_4 rfl (lv_at hl 0 rfl) ?_
  refine va_get (D := (dC, dI)) (ci := 2) (v := .ref tp) (C := "RequestCutter") (T := TX2) (N := 5) hx hb hts (fun w h => List.mem_cons_of_mem _ (inX2 w h)) hown hK hP 0 rfl rfl 0 (by decide) (hts _ (List.mem_cons_of_mem _ tw_75)) (fun _ h9 => h9) rfl dX2_arrive_5 ?_
  refine lv_aload_n hx hb dX2_arrive_8 rfl (lv_at hl 0 rfl) ?_
  refine va_get (D := (dC, dI)) (ci := 2) (v := .ref tp) (C := "RequestCutter") (T := TX2) (N := 5) hx hb hts (fun w h => List.mem_cons_of_mem _ (inX2 w h)) hown hK hP 0 rfl rfl 0 (by decide) (hts _ (List.mem_cons_of_mem _ tw_75)) (fun _ h9 => h9) rfl dX2_arrive_9 ?_
  refine vx_Vs (As := []) (rest := [.ref tp, .ref ip]) (ci := 0) (q0 := 0) [1] ⟨hx, hb, hml, hown, hts⟩ (c_X0_count l dC dI cB cI tp tq 10240 tc) (cwV 0 hts (gd_V tw_135 tw_136 tw_137 tw_20 tw_138) rfl rfl rfl (by decide +kernel) ⟨Nat.le_of_ble_eq_true rfl, Nat.le_of_ble_eq_true rfl⟩) hK hP rfl rfl rfl rfl rfl hl.1 rfl (Nat.le_of_ble_eq_true rfl) dX2_arrive_12 ⟨Nat.zero_le _, Nat.zero_le _⟩ (fun r hr => ?_)
  obtain rfl : r = iI ((tc : Int)) := hr
  have hct : (tc : Int).toNat = tc := by omega
  refine vx_Vi (As := [.ref tp, .int (iI ((tc : Int)))]) (rest := []) (wr := [(h, .inr (2, [.ref tp, .ref ip, .ref wd, .int (iI (lf)), .int (iI (ln))]))]) (ci := 0) (q0 := 0) [3, 4, 1, 2] [0] ⟨hx, hb, hml, hown, hts⟩ (c_X0_addFirstOf l dC dI cB cI _ ip iq 65536 il n f hc hn (by omega) hn hfit tp tq 10240 tl tc tf htc (by omega) (by omega) htf (tc : Int) (by omega) mc ms (fun z => by rw [hct]; exact hroom (by omega))) (cwV 2 hts (gd_V tw_139 tw_140 tw_141 tw_20 tw_142) rfl rfl rfl (by decide +kernel) ⟨Nat.le_of_ble_eq_true rfl, Nat.le_of_ble_eq_true rfl⟩) hK hP hD hS hA rfl rfl rfl rfl (by decide) rfl rfl rfl rfl hl.1 rfl (Nat.le_of_ble_eq_true rfl) dX2_arrive_15 ⟨by show 0 + mc ≤ mc; omega, by show 0 + ms ≤ ms; omega⟩ (fun r u H locs hw hP hD hS => ?_)
  obtain ⟨q1, len1, c1, f1⟩ := u
  try dsimp only at hw hP hD
  obtain ⟨hr1, hfit1, hl1, hlim1, hok1, hno1⟩ := hw
  have hP : va_P (dC, dI) vwCl [(h, .inr (2, [.ref tp, .ref ip, .ref wd, .int (iI (lf)), .int (iI (ln))])), (tp, .inr (0, [.int (iI (((10240 : Nat) : Int))), .ref tq, .int (iI ((tc : Int)))])), (tq, .inl (cB, tl, .inl (tf))), (ip, .inr (0, [.int (iI (((65536 : Nat) : Int))), .ref q1, .int (iI ((c1 : Int)))])), (q1, .inl (cB, len1, .inl (f1)))] H := hP.sub [0, 3, 4, 1, 2] rfl
  have hD : va_D A [(h, .inr (2, [.ref tp, .ref ip, .ref wd, .int (iI (lf)), .int (iI (ln))])), (tp, .inr (0, [.int (iI (((10240 : Nat) : Int))), .ref tq, .int (iI ((tc : Int)))])), (tq, .inl (cB, tl, .inl (tf))), (ip, .inr (0, [.int (iI (((65536 : Nat) : Int))), .ref q1, .int (iI ((c1 : Int)))])), (q1, .inl (cB, len1, .inl (f1)))] := hD.sub [0, 3, 4, 1, 2] (by decide) rfl
  rw [hct] at hl1 hok1
  obtain ⟨b1, hb1, rfl⟩ := bo_of hr1
  have hl2 : (¬ (n + tc ≤ 65536 ∧ il < n + tc) ∧ len1 = il) ∨ ((n + tc ≤ 65536 ∧ il < n + tc) ∧ len1 = gL 65536 il (n + tc)) := by
    by_cases q : n + tc ≤ 65536 ∧ il < n + tc
    · exact Or.inr ⟨q, by rw [hl1, if_pos (by omega)]⟩
    · exact Or.inl ⟨q, by rw [hl1, if_neg (by omega)]⟩
  refine W.widen (k := mc) (n := ms) (by omega) (by omega) ?_
  refine lv_istore_n (lv' := [(1, .int (iI (b1))), (0, .ref h)]) hx hb dX2_arrive_18 rfl hl (by decide) rfl (fun ls hl => ?_)
  refine lv_aload_n hx hb dX2_arrive_19 rfl (lv_at hl 1 rfl) ?_
  refine va_get (D := (dC, dI)) (ci := 2) (v := .ref tp) (C := "RequestCutter") (T := TX2) (N := 5) hx hb hts (fun w h => List.mem_cons_of_mem _ (inX2 w h)) hown hK hP 0 rfl rfl 0 (by decide) (hts _ (List.mem_cons_of_mem _ tw_75)) (fun _ h9 => h9) rfl dX2_arrive_20 ?_
  refine vx_Vv (As := []) (rest := []) (wr := [(h, .inr (2, [.ref tp, .ref ip, .ref wd, .int (iI (lf)), .int (iI (ln))])), (tq, .inl (cB, tl, .inl (tf))), (ip, .inr (0, [.int (iI (((65536 : Nat) : Int))), .ref q1, .int (iI ((c1 : Int)))])), (q1, .inl (cB, len1, .inl (f1)))]) (ci := 0) (q0 := 0) [1] [0, 2, 3, 4] ⟨hx, hb, hml, hown, hts⟩ (c_X0_clear l dC dI cB cI _ tp tq 10240 tc) (cwV 0 hts (gd_V tw_145 tw_146 tw_147 tw_20 tw_148) rfl rfl rfl (by decide +kernel) ⟨Nat.le_of_ble_eq_true rfl, Nat.le_of_ble_eq_true rfl⟩) hK hP hD hS hA rfl rfl rfl rfl (by decide) rfl rfl rfl rfl hl.1 rfl (Nat.le_of_ble_eq_true rfl) dX2_arrive_23 ⟨Nat.le_refl _, Nat.le_refl _⟩ (fun u H locs hw hP hD hS => ?_)
  obtain - := u
  try dsimp only at hw hP hD
  obtain - := hw
  have hP : va_P (dC, dI) vwCl [(h, .inr (2, [.ref tp, .ref ip, .ref wd, .int (iI (lf)), .int (iI (ln))])), (tp, .inr (0, [.int (iI (((10240 : Nat) : Int))), .ref tq, .int (iI (0))])), (tq, .inl (cB, tl, .inl (tf))), (ip, .inr (0, [.int (iI (((65536 : Nat) : Int))), .ref q1, .int (iI ((c1 : Int)))])), (q1, .inl (cB, len1, .inl (f1)))] H := hP.sub [0, 4, 1, 2, 3] rfl
  have hD : va_D A [(h, .inr (2, [.ref tp, .ref ip, .ref wd, .int (iI (lf)), .int (iI (ln))])), (tp, .inr (0, [.int (iI (((10240 : Nat) : Int))), .ref tq, .int (iI (0))])), (tq, .inl (cB, tl, .inl (tf))), (ip, .inr (0, [.int (iI (((65536 : Nat) : Int))), .ref q1, .int (iI ((c1 : Int)))])), (q1, .inl (cB, len1, .inl (f1)))] := hD.sub [0, 4, 1, 2, 3] (by decide) rfl
  refine lv_iload_n hx hb dX2_arrive_26 rfl (lv_at hl 0 rfl) ?_
  refine lx_if_eq (a := b1) (tgt := 40) hx hb dX2_arrive_27 (by decide) (by omega) (fun cq1 => ?_) (fun cq1 => ?_)
  · refine lv_iconst (v := iI (-1)) hx hb dX2_arrive_40 rfl ?_
    have hk1 := hno1 (by omega)
    exact W.iret (v := iI (-1)) hx hb hr (fun t ht hW => ⟨⟨iI (-1), (q1, len1, c1, f1), rfl, ⟨by rw [if_neg (by omega)], hfit1, ⟨by show c1 ≤ len1; omega, hlim1⟩, hl2, hk1.2.2, fun z => by omega, fun _ => hk1.1⟩, by rw [ht]; exact hP, va_K.moved hW.alike hK, hD⟩, hS.F ht⟩) hS.2.2 dX2_arrive_41
  · refine lv_aload_n hx hb dX2_arrive_30 rfl (lv_at hl 1 rfl) ?_
    refine va_get (D := (dC, dI)) (ci := 2) (v := .ref ip) (C := "RequestCutter") (T := TX2) (N := 5) hx hb hts (fun w h => List.mem_cons_of_mem _ (inX2 w h)) hown hK hP 0 rfl rfl 1 (by decide) (hts _ (List.mem_cons_of_mem _ tw_76)) (fun _ h9 => h9) rfl dX2_arrive_31 ?_
    refine vx_Vs (As := []) (rest := []) (ci := 0) (q0 := 0) [3] ⟨hx, hb, hml, hown, hts⟩ (c_X0_count l dC dI cB cI ip q1 65536 c1) (cwV 0 hts (gd_V tw_135 tw_136 tw_137 tw_20 tw_138) rfl rfl rfl (by decide +kernel) ⟨Nat.le_of_ble_eq_true rfl, Nat.le_of_ble_eq_true rfl⟩) hK hP rfl rfl rfl rfl rfl hl.1 rfl (Nat.le_of_ble_eq_true rfl) dX2_arrive_34 ⟨Nat.le_refl _, Nat.le_refl _⟩ (fun r hr => ?_)
    obtain rfl : r = iI ((c1 : Int)) := hr
    refine lv_goto (tgt := 41) hx hb dX2_arrive_37 (by decide) ?_
    have hk1 := hok1 (by omega)
    exact W.iret (v := iI ((c1 : Int))) hx hb hr (fun t ht hW => ⟨⟨iI ((c1 : Int)), (q1, len1, c1, f1), rfl, ⟨by rw [if_pos (by omega), hk1.1], hfit1, ⟨by show c1 ≤ len1; omega, hlim1⟩, hl2, hk1.2.2.1, fun _ => ⟨hk1.1, hk1.2.2.2⟩, fun z => by omega⟩, by rw [ht]; exact hP, va_K.moved hW.alike hK, hD⟩, hS.F ht⟩) hS.2.2 dX2_arrive_41
