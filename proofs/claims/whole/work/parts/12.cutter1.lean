set_option maxHeartbeats 4000000 in
set_option maxRecDepth 100000 in
/-- tell(fault) -/
theorem c_X2_tell (l : Launch) (dC : Nat → ClassId) (dI : Nat → Nat → Nat) (cB cI : ClassId) (sz : Nat) (h tp ip wd : Nat) (lf ln ft : Int) : Met l yX2_tell wX2_tell ({ frames := 0, cells := 0, slots := 0, locals := 0 }) (va_Pc [.ref h, .int (iI (ft))] (vx_B (dC, dI) vwCl [(cB, .byte), (cI, .int)] [(h, .inr (2, [.ref tp, .ref ip, .ref wd, .int (iI (lf)), .int (iI (ln))]))] sz)) (va_Qi (fun (r : Int32) (u : Unit) => r = iI (-2)) (fun (u : Unit) => vx_E (dC, dI) vwCl [(cB, .byte), (cI, .int)] (va_A [(h, .inr (2, [.ref tp, .ref ip, .ref wd, .int (iI (lf)), .int (iI (ln))]))] sz) [(h, .inr (2, [.ref tp, .ref ip, .ref wd, .int (iI (ft)), .int (iI (ln))]))]) (va_A [(h, .inr (2, [.ref tp, .ref ip, .ref wd, .int (iI (lf)), .int (iI (ln))]))] sz)) (0) (0) (va_A [(h, .inr (2, [.ref tp, .ref ip, .ref wd, .int (iI (lf)), .int (iI (ln))]))] sz) := by
  refine Met.ofW (cc := cX2_tell) (maxL := 2) (ret := (some .int)) (by decide) rfl ?_
  intro p e s m args below meth c s₁ B hml hv
  obtain ⟨rfl, hsz, hP, hK, hD0⟩ := hv
  have hx := B.exec
  have hb := B.bytes
  have hr := B.returns
  have hts := atoms_spec (ws := wX2_tell) B.pre
  have hown : s.vm.findClass "RequestCutter" = some m.cls := findClass_of_methodNamed B.named
  have hlocks := B.notSynchronized
  subst hsz
  have hD := hD0.self (sz := s.heap.size)
  generalize hAe : va_A [(h, .inr (2, [.ref tp, .ref ip, .ref wd, .int (iI (lf)), .int (iI (ln))]))] s.heap.size = A at hD ⊢
  have hA : ∀ q : Nat, s.heap.size ≤ q → A q := fun q h => by rw [← hAe]; exact Or.inr h
  have hS : va_S A s.heap s.heap [] := va_S.rf
  have hP : va_P (dC, dI) vwCl [(h, .inr (2, [.ref tp, .ref ip, .ref wd, .int (iI (lf)), .int (iI (ln))]))] s.heap := hP
  have hl := lv_entry ([.ref h, .int (iI (ft))]) (n := 2) (Nat.le_of_ble_eq_true rfl)
  rw [lg_entry_eq]
  generalize (lg_sl ([.ref h, .int (iI (ft))]) ++ List.replicate (2 - (lg_sl ([.ref h, .int (iI (ft))])).length) Slot.unset).toArray = ls at hl ⊢
  have hl : lv_has ls 2 [(0, .ref h), (1, .int (iI (ft)))] := hl
  refine lv_aload_n hx hb dX2_tell_0 rfl (lv_at hl 0 rfl) ?_
  refine lv_iload_n hx hb dX2_tell_1 rfl (lv_at hl 1 rfl) ?_
  refine va_put (D := (dC, dI)) (ci := 2) (v := .int (iI (ft))) (ty := .int) (C := "RequestCutter") (T := TX2) (N := 5) hx hb hts (fun w h => List.mem_cons_of_mem _ (inX2 w h)) tyX2 tyX2_ok nmX2 hown hK hP hD hS 0 rfl rfl 3 (by decide) (hts _ (List.mem_cons_of_mem _ tw_78)) (fun _ h9 => h9) rfl (by decide +kernel) rfl rfl (Nat.le_of_ble_eq_true rfl) dX2_tell_2 (fun H locs hP hD hS => ?_)
  have hP : va_P (dC, dI) vwCl [(h, .inr (2, [.ref tp, .ref ip, .ref wd, .int (iI (ft)), .int (iI (ln))]))] H := hP
  have hD : va_D A [(h, .inr (2, [.ref tp, .ref ip, .ref wd, .int (iI (ft)), .int (iI (ln))]))] := hD
  refine lv_bipush (v := iI (-2)) hx hb dX2_tell_5 (by decide) ?_
  exact W.iret (v := iI (-2)) hx hb hr (fun t ht hW => ⟨⟨iI (-2), (), rfl, rfl, by rw [ht]; exact hP, va_K.moved hW.alike hK, hD⟩, hS.F ht⟩) hS.2.2 dX2_tell_7
set_option maxHeartbeats 4000000 in
set_option maxRecDepth 100000 in
/-- findLineStop(from) -/
theorem c_X2_findLineStop (l : Launch) (dC : Nat → ClassId) (dI : Nat → Nat → Nat) (cB cI : ClassId) (h tp ip wd iq lim il n : Nat) (f : Nat → Int32) (lf ln : Int) (hc : n ≤ il) (hn : il ≤ 65536) (fr : Int) (hfr : 0 ≤ fr ∧ fr ≤ 100000) : Met l yX2_findLineStop wX2_findLineStop ({ frames := 1, cells := 0, slots := 0, locals := 21 }) (va_Pc [.ref h, .int (iI (fr))] (vx_R (dC, dI) vwCl [(cB, .byte), (cI, .int)] [(h, .inr (2, [.ref tp, .ref ip, .ref wd, .int (iI (lf)), .int (iI (ln))])), (ip, .inr (0, [.int (iI ((lim : Int))), .ref iq, .int (iI ((n : Int)))])), (iq, .inl (cB, il, .inl (f)))])) (vp_Si (fun r => r = iI (zStop (bA f n) fr))) 0 0 (fun _ => False) := by
  refine Met.ofW (cc := cX2_findLineStop) (maxL := 3) (ret := (some .int)) (by decide) rfl ?_
  intro p e s m args below meth c s₁ B hml hv
  obtain ⟨rfl, hP, hK⟩ := hv
  have hx := B.exec
  have hb := B.bytes
  have hr := B.returns
  have hts := atoms_spec (ws := wX2_findLineStop) B.pre
  have hown : s.vm.findClass "RequestCutter" = some m.cls := findClass_of_methodNamed B.named
  have hlocks := B.notSynchronized
  have hP : va_P (dC, dI) vwCl [(h, .inr (2, [.ref tp, .ref ip, .ref wd, .int (iI (lf)), .int (iI (ln))])), (ip, .inr (0, [.int (iI ((lim : Int))), .ref iq, .int (iI ((n : Int)))])), (iq, .inl (cB, il, .inl (f)))] s.heap := hP
  have hl := lv_entry ([.ref h, .int (iI (fr))]) (n := 3) (Nat.le_of_ble_eq_true rfl)
  rw [lg_entry_eq]
  generalize (lg_sl ([.ref h, .int (iI (fr))]) ++ List.replicate (3 - (lg_sl ([.ref h, .int (iI (fr))])).length) Slot.unset).toArray = ls at hl ⊢
  have hl : lv_has ls 3 [(0, .ref h), (1, .int (iI (fr)))] := hl
  refine lv_iload_n hx hb dX2_findLineStop_0 rfl (lv_at hl 1 rfl) ?_
  refine lv_iconst (v := iI (1)) hx hb dX2_findLineStop_1 rfl ?_
  refine lx_iadd (a := fr) (b := 1) hx hb dX2_findLineStop_2 ?_
  refine lv_istore_n (lv' := [(2, .int (iI (fr + 1))), (0, .ref h), (1, .int (iI (fr)))]) hx hb dX2_findLineStop_3 rfl hl (by decide) rfl (fun ls hl => ?_)
  refine (?_ : ∀ (k : Nat) (i : Int) (ls : Array Slot), i + k = fr + 15 → 0 ≤ i → zStopGo (bA f n) k i = zStop (bA f n) fr → lv_has ls 3 [(2, .int (iI (i))), (0, .ref h), (1, .int (iI (fr)))] → W p l e _ s m _ below meth c _ _ _ _ _ (F0 m 4 ls [])) (14) (fr + 1) ls (by omega) (by omega) (rfl) (lv_sub hl [0, 1, 2] rfl)
  intro k
  induction k with
  | zero =>
    intro i ls hk hi0 hz hl
    refine lv_iload_n hx hb dX2_findLineStop_4 rfl (lv_at hl 0 rfl) ?_
    refine lv_iload_n hx hb dX2_findLineStop_5 rfl (lv_at hl 2 rfl) ?_
    refine lv_bipush (v := iI (16)) hx hb dX2_findLineStop_6 (by decide) ?_
    refine lx_iadd (a := fr) (b := 16) hx hb dX2_findLineStop_8 ?_
    refine lv_iconst (v := iI (1)) hx hb dX2_findLineStop_9 rfl ?_
    refine lx_isub (a := fr + 16) (b := 1) hx hb dX2_findLineStop_10 ?_
    refine lx_icmp_ge (a := i) (b := (fr + 16) - 1) (tgt := 50) hx hb dX2_findLineStop_11 (by decide) (by omega) (by omega) (fun cq1 => ?_) (fun cq1 => ?_)
    · refine lv_iconst (v := iI (-1)) hx hb dX2_findLineStop_50 rfl ?_
      exact W.iret (v := iI (-1)) hx hb hr (fun t ht hW => ⟨iI (-1), rfl, by rw [← hz]; rfl, ht⟩) (fun _ h => by cases h) dX2_findLineStop_51
    · exact absurd cq1 (by omega)
  | succ k ih =>
    intro i ls hk hi0 hz hl
    refine lv_iload_n hx hb dX2_findLineStop_4 rfl (lv_at hl 0 rfl) ?_
    refine lv_iload_n hx hb dX2_findLineStop_5 rfl (lv_at hl 2 rfl) ?_
    refine lv_bipush (v := iI (16)) hx hb dX2_findLineStop_6 (by decide) ?_
    refine lx_iadd (a := fr) (b := 16) hx hb dX2_findLineStop_8 ?_
    refine lv_iconst (v := iI (1)) hx hb dX2_findLineStop_9 rfl ?_
    refine lx_isub (a := fr + 16) (b := 1) hx hb dX2_findLineStop_10 ?_
    refine lx_icmp_ge (a := i) (b := (fr + 16) - 1) (tgt := 50) hx hb dX2_findLineStop_11 (by decide) (by omega) (by omega) (fun cq2 => ?_) (fun cq2 => ?_)
    · exact absurd cq2 (by omega)
    · refine lv_aload_n hx hb dX2_findLineStop_14 rfl (lv_at hl 1 rfl) ?_
      refine va_get (D := (dC, dI)) (ci := 2) (v := .ref ip) (C := "RequestCutter") (T := TX2) (N := 5) hx hb hts (fun w h => List.mem_cons_of_mem _ (inX2 w h)) hown hK hP 0 rfl rfl 1 (by decide) (hts _ (List.mem_cons_of_mem _ tw_76)) (fun _ h9 => h9) rfl dX2_findLineStop_15 ?_
      refine lv_iload_n hx hb dX2_findLineStop_18 rfl (lv_at hl 0 rfl) ?_
      have g_at := bA_rg f n (i)
      refine vx_Vs (As := [.int (iI (i))]) (rest := []) (ci := 0) (q0 := 0) [1, 2] ⟨hx, hb, hml, hown, hts⟩ (c_X0_at l dC dI cB cI ip iq lim il n f hc hn (i) (by omega)) (cwV 1 hts (gd_V tw_158 tw_159 tw_160 tw_20 tw_161) rfl rfl rfl (by decide +kernel) ⟨Nat.le_of_ble_eq_true rfl, Nat.le_of_ble_eq_true rfl⟩) hK hP rfl rfl rfl rfl rfl hl.1 rfl (Nat.le_of_ble_eq_true rfl) dX2_findLineStop_19 ⟨Nat.zero_le _, Nat.zero_le _⟩ (fun r hr => ?_)
      obtain rfl : r = iI (bA f n (i)) := hr
      refine lv_bipush (v := iI (13)) hx hb dX2_findLineStop_22 (by decide) ?_
      refine lx_icmp_ne (a := bA f n (i)) (b := 13) (tgt := 44) hx hb dX2_findLineStop_24 (by decide) (by omega) (by omega) (fun cq3 => ?_) (fun cq3 => ?_)
      · refine lv_iinc (v := iI (i + 1)) (lv' := [(2, .int (iI (i + 1))), (0, .ref h), (1, .int (iI (fr)))]) hx hb dX2_findLineStop_44 hl (k := 0) rfl (iI_add _ _) (by decide) rfl (fun ls hl => ?_)
        refine lv_goto (tgt := 4) hx hb dX2_findLineStop_47 (by decide) ?_
        exact ih (i + 1) ls (by omega) (by omega) (by rw [← hz]; exact (if_neg (by omega)).symm) (lv_sub hl [0, 1, 2] rfl)
      · refine lv_aload_n hx hb dX2_findLineStop_27 rfl (lv_at hl 1 rfl) ?_
        refine va_get (D := (dC, dI)) (ci := 2) (v := .ref ip) (C := "RequestCutter") (T := TX2) (N := 5) hx hb hts (fun w h => List.mem_cons_of_mem _ (inX2 w h)) hown hK hP 0 rfl rfl 1 (by decide) (hts _ (List.mem_cons_of_mem _ tw_76)) (fun _ h9 => h9) rfl dX2_findLineStop_28 ?_
        refine lv_iload_n hx hb dX2_findLineStop_31 rfl (lv_at hl 0 rfl) ?_
        refine lv_iconst (v := iI (1)) hx hb dX2_findLineStop_32 rfl ?_
        refine lx_iadd (a := i) (b := 1) hx hb dX2_findLineStop_33 ?_
        have g_at := bA_rg f n (i + 1)
        refine vx_Vs (As := [.int (iI (i + 1))]) (rest := []) (ci := 0) (q0 := 0) [1, 2] ⟨hx, hb, hml, hown, hts⟩ (c_X0_at l dC dI cB cI ip iq lim il n f hc hn (i + 1) (by omega)) (cwV 1 hts (gd_V tw_158 tw_159 tw_160 tw_20 tw_161) rfl rfl rfl (by decide +kernel) ⟨Nat.le_of_ble_eq_true rfl, Nat.le_of_ble_eq_true rfl⟩) hK hP rfl rfl rfl rfl rfl hl.1 rfl (Nat.le_of_ble_eq_true rfl) dX2_findLineStop_34 ⟨Nat.zero_le _, Nat.zero_le _⟩ (fun r hr => ?_)
        obtain rfl : r = iI (bA f n (i + 1)) := hr
        refine lv_bipush (v := iI (10)) hx hb dX2_findLineStop_37 (by decide) ?_
        refine lx_icmp_ne (a := bA f n (i + 1)) (b := 10) (tgt := 44) hx hb dX2_findLineStop_39 (by decide) (by omega) (by omega) (fun cq4 => ?_) (fun cq4 => ?_)
        · refine lv_iinc (v := iI (i + 1)) (lv' := [(2, .int (iI (i + 1))), (0, .ref h), (1, .int (iI (fr)))]) hx hb dX2_findLineStop_44 hl (k := 0) rfl (iI_add _ _) (by decide) rfl (fun ls hl => ?_)
          refine lv_goto (tgt := 4) hx hb dX2_findLineStop_47 (by decide) ?_
          exact ih (i + 1) ls (by omega) (by omega) (by rw [← hz]; exact (if_neg (by omega)).symm) (lv_sub hl [0, 1, 2] rfl)
        · refine lv_iload_n hx hb dX2_findLineStop_42 rfl (lv_at hl 0 rfl) ?_
          exact W.iret (v := iI (i)) hx hb hr (fun t ht hW => ⟨iI (i), rfl, by rw [← hz]; exact congrArg iI (if_pos (by omega)).symm, ht⟩) (fun _ h => by cases h) dX2_findLineStop_43
set_option maxHeartbeats 4000000 in
set_option maxRecDepth 100000 in
/-- readNumber(from, stop) -/
theorem c_X2_readNumber (l : Launch) (dC : Nat → ClassId) (dI : Nat → Nat → Nat) (cB cI : ClassId) (sz : Nat) (h tp ip wd iq lim il n : Nat) (f : Nat → Int32) (lf ln : Int) (hc : n ≤ il) (hn : il ≤ 65536) (fr st : Int) (hfr : 0 ≤ fr ∧ fr ≤ 100000) (hst : 0 ≤ st ∧ st ≤ 100000) : Met l yX2_readNumber wX2_readNumber ({ frames := 1, cells := 0, slots := 0, locals := 21 }) (va_Pc [.ref h, .int (iI (fr)), .int (iI (st))] (vx_B (dC, dI) vwCl [(cB, .byte), (cI, .int)] [(h, .inr (2, [.ref tp, .ref ip, .ref wd, .int (iI (lf)), .int (iI (ln))])), (ip, .inr (0, [.int (iI ((lim : Int))), .ref iq, .int (iI ((n : Int)))])), (iq, .inl (cB, il, .inl (f)))] sz)) (va_Qi (fun (r : Int32) (u : Int) => r = iI (if (zNum (bA f n) fr st).isSome = true then 1 else 0) ∧ u = (zNum (bA f n) fr st).getD ln) (fun (u : Int) => vx_E (dC, dI) vwCl [(cB, .byte), (cI, .int)] (va_A [(h, .inr (2, [.ref tp, .ref ip, .ref wd, .int (iI (lf)), .int (iI (ln))])), (ip, .inr (0, [.int (iI ((lim : Int))), .ref iq, .int (iI ((n : Int)))])), (iq, .inl (cB, il, .inl (f)))] sz) [(h, .inr (2, [.ref tp, .ref ip, .ref wd, .int (iI (lf)), .int (iI (u))])), (ip, .inr (0, [.int (iI ((lim : Int))), .ref iq, .int (iI ((n : Int)))])), (iq, .inl (cB, il, .inl (f)))]) (va_A [(h, .inr (2, [.ref tp, .ref ip, .ref wd, .int (iI (lf)), .int (iI (ln))])), (ip, .inr (0, [.int (iI ((lim : Int))), .ref iq, .int (iI ((n : Int)))])), (iq, .inl (cB, il, .inl (f)))] sz)) (0) (0) (va_A [(h, .inr (2, [.ref tp, .ref ip, .ref wd, .int (iI (lf)), .int (iI (ln))])), (ip, .inr (0, [.int (iI ((lim : Int))), .ref iq, .int (iI ((n : Int)))])), (iq, .inl (cB, il, .inl (f)))] sz) := by
  refine Met.ofW (cc := cX2_readNumber) (maxL := 8) (ret := (some .boolean)) (by decide) rfl ?_
  intro p e s m args below meth c s₁ B hml hv
  obtain ⟨rfl, hsz, hP, hK, hD0⟩ := hv
  have hx := B.exec
  have hb := B.bytes
  have hr := B.returns
  have hts := atoms_spec (ws := wX2_readNumber) B.pre
  have hown : s.vm.findClass "RequestCutter" = some m.cls := findClass_of_methodNamed B.named
  have hlocks := B.notSynchronized
  subst hsz
  have hD := hD0.self (sz := s.heap.size)
  generalize hAe : va_A [(h, .inr (2, [.ref tp, .ref ip, .ref wd, .int (iI (lf)), .int (iI (ln))])), (ip, .inr (0, [.int (iI ((lim : Int))), .ref iq, .int (iI ((n : Int)))])), (iq, .inl (cB, il, .inl (f)))] s.heap.size = A at hD ⊢
  have hA : ∀ q : Nat, s.heap.size ≤ q → A q := fun q h => by rw [← hAe]; exact Or.inr h
  have hS : va_S A s.heap s.heap [] := va_S.rf
  have hP : va_P (dC, dI) vwCl [(h, .inr (2, [.ref tp, .ref ip, .ref wd, .int (iI (lf)), .int (iI (ln))])), (ip, .inr (0, [.int (iI ((lim : Int))), .ref iq, .int (iI ((n : Int)))])), (iq, .inl (cB, il, .inl (f)))] s.heap := hP
  have hl := lv_entry ([.ref h, .int (iI (fr)), .int (iI (st))]) (n := 8) (Nat.le_of_ble_eq_true rfl)
  rw [lg_entry_eq]
  generalize (lg_sl ([.ref h, .int (iI (fr)), .int (iI (st))]) ++ List.replicate (8 - (lg_sl ([.ref h, .int (iI (fr)), .int (iI (st))])).length) Slot.unset).toArray = ls at hl ⊢
  have hl : lv_has ls 8 [(0, .ref h), (1, .int (iI (fr))), (2, .int (iI (st)))] := hl
  refine lv_aload_n hx hb dX2_readNumber_0 rfl (lv_at hl 0 rfl) ?_
  refine va_get (D := (dC, dI)) (ci := 2) (v := .ref ip) (C := "RequestCutter") (T := TX2) (N := 5) hx hb hts (fun w h => List.mem_cons_of_mem _ (inX2 w h)) hown hK hP 0 rfl rfl 1 (by decide) (hts _ (List.mem_cons_of_mem _ tw_76)) (fun _ h9 => h9) rfl dX2_readNumber_1 ?_
  refine lv_iload_n hx hb dX2_readNumber_4 rfl (lv_at hl 1 rfl) ?_
  have g_at := bA_rg f n (fr)
  refine vx_Vs (As := [.int (iI (fr))]) (rest := []) (ci := 0) (q0 := 0) [1, 2] ⟨hx, hb, hml, hown, hts⟩ (c_X0_at l dC dI cB cI ip iq lim il n f hc hn (fr) (by omega)) (cwV 1 hts (gd_V tw_158 tw_159 tw_160 tw_20 tw_161) rfl rfl rfl (by decide +kernel) ⟨Nat.le_of_ble_eq_true rfl, Nat.le_of_ble_eq_true rfl⟩) hK hP rfl rfl rfl rfl rfl hl.1 rfl (Nat.le_of_ble_eq_true rfl) dX2_readNumber_5 ⟨Nat.zero_le _, Nat.zero_le _⟩ (fun r hr => ?_)
  obtain rfl : r = iI (bA f n (fr)) := hr
  refine lv_bipush (v := iI (45)) hx hb dX2_readNumber_8 (by decide) ?_
  refine lx_icmp_ne (a := bA f n (fr)) (b := 45) (tgt := 17) hx hb dX2_readNumber_10 (by decide) (by omega) (by omega) (fun cq1 => ?_) (fun cq1 => ?_)
  · refine lv_iconst (v := iI (0)) hx hb dX2_readNumber_17 rfl ?_
    refine lv_istore_n (lv' := [(3, .int (iI (0))), (0, .ref h), (1, .int (iI (fr))), (2, .int (iI (st)))]) hx hb dX2_readNumber_18 rfl hl (by decide) rfl (fun ls hl => ?_)
    refine lv_iload_n hx hb dX2_readNumber_19 rfl (lv_at hl 0 rfl) ?_
    refine lx_if_eq (a := 0) (tgt := 29) hx hb dX2_readNumber_20 (by decide) (by omega) (fun cq2 => ?_) (fun cq2 => ?_)
    · refine lv_iload_n hx hb dX2_readNumber_29 rfl (lv_at hl 2 rfl) ?_
      refine lv_istore (lv' := [(4, .int (iI (fr))), (3, .int (iI (0))), (0, .ref h), (1, .int (iI (fr))), (2, .int (iI (st)))]) hx hb dX2_readNumber_30 hl (by decide) rfl (fun ls hl => ?_)
      refine lv_iload_n hx hb dX2_readNumber_32 rfl (lv_at hl 4 rfl) ?_
      refine lv_iload hx hb dX2_readNumber_33 (lv_at hl 0 rfl) ?_
      refine lx_icmp_le (a := st) (b := fr) (tgt := 47) hx hb dX2_readNumber_35 (by decide) (by omega) (by omega) (fun cq3 => ?_) (fun cq3 => ?_)
      · refine lv_iconst (v := iI (0)) hx hb dX2_readNumber_47 rfl ?_
        have hn : zNum (bA f n) fr st = none := zNum_0 (by rw [if_neg (by omega)]; omega)
        exact W.zret (v := iI (0)) hx hb hr (by rfl) (fun t ht hW => ⟨⟨iI (0), ln, rfl, ⟨by rw [hn]; rfl, by rw [hn]; rfl⟩, by rw [ht]; exact hP, va_K.moved hW.alike hK, hD⟩, hS.F ht⟩) hS.2.2 dX2_readNumber_48
      · refine lv_iload_n hx hb dX2_readNumber_38 rfl (lv_at hl 4 rfl) ?_
        refine lv_iload hx hb dX2_readNumber_39 (lv_at hl 0 rfl) ?_
        refine lx_isub (a := st) (b := fr) hx hb dX2_readNumber_41 ?_
        refine lv_bipush (v := iI (6)) hx hb dX2_readNumber_42 (by decide) ?_
        refine lx_icmp_le (a := st - fr) (b := 6) (tgt := 49) hx hb dX2_readNumber_44 (by decide) (by omega) (by omega) (fun cq4 => ?_) (fun cq4 => ?_)
        · refine lv_iconst (v := iI (0)) hx hb dX2_readNumber_49 rfl ?_
          refine lv_istore (lv' := [(5, .int (iI (0))), (4, .int (iI (fr))), (3, .int (iI (0))), (0, .ref h), (1, .int (iI (fr))), (2, .int (iI (st)))]) hx hb dX2_readNumber_50 hl (by decide) rfl (fun ls hl => ?_)
          refine lv_iload hx hb dX2_readNumber_52 (lv_at hl 1 rfl) ?_
          refine lv_istore (lv' := [(6, .int (iI (fr))), (5, .int (iI (0))), (4, .int (iI (fr))), (3, .int (iI (0))), (0, .ref h), (1, .int (iI (fr))), (2, .int (iI (st)))]) hx hb dX2_readNumber_54 hl (by decide) rfl (fun ls hl => ?_)
          obtain ⟨Z, hZ⟩ : ∃ Z, Z = zDig (bA f n) (st - (fr)).toNat (fr) 0 := ⟨_, rfl⟩
          have hZ1 : zNum (bA f n) fr st = Z.map (fun x => x) := by rw [hZ]; exact zNum_p (by omega) (by omega)
          refine (?_ : ∀ (k : Nat) (i : Int) (x : Int) (ls : Array Slot), i + k = st → 0 ≤ i → zDig (bA f n) k i x = Z → lv_has ls 8 [(6, .int (iI (i))), (5, .int (iI (x))), (4, .int (iI (fr))), (3, .int (iI (0))), (0, .ref h), (1, .int (iI (fr))), (2, .int (iI (st)))] → W p l e _ s m _ below meth c _ _ _ _ _ (F0 m 56 ls [])) ((st - (fr)).toNat) (fr) (0) ls (by omega) (by omega) (hZ.symm) (lv_sub hl [0, 1, 2, 3, 4, 5, 6] rfl)
          intro k
          induction k with
          | zero =>
            intro i x ls hk hi0 hz hl
            refine lv_iload hx hb dX2_readNumber_56 (lv_at hl 0 rfl) ?_
            refine lv_iload_n hx hb dX2_readNumber_58 rfl (lv_at hl 6 rfl) ?_
            refine lx_icmp_ge (a := i) (b := st) (tgt := 108) hx hb dX2_readNumber_59 (by decide) (by omega) (by omega) (fun cq5 => ?_) (fun cq5 => ?_)
            · refine lv_aload_n hx hb dX2_readNumber_108 rfl (lv_at hl 4 rfl) ?_
              refine lv_iload_n hx hb dX2_readNumber_109 rfl (lv_at hl 3 rfl) ?_
              refine lx_if_eq (a := 0) (tgt := 119) hx hb dX2_readNumber_110 (by decide) (by omega) (fun cq6 => ?_) (fun cq6 => ?_)
              · refine lv_iload hx hb dX2_readNumber_119 (lv_at hl 1 rfl) ?_
                refine va_put (D := (dC, dI)) (ci := 2) (v := .int (iI (x))) (ty := .int) (C := "RequestCutter") (T := TX2) (N := 5) hx hb hts (fun w h => List.mem_cons_of_mem _ (inX2 w h)) tyX2 tyX2_ok nmX2 hown hK hP hD hS 0 rfl rfl 4 (by decide) (hts _ (List.mem_cons_of_mem _ tw_79)) (fun _ h9 => h9) rfl (by decide +kernel) rfl rfl (Nat.le_of_ble_eq_true rfl) dX2_readNumber_121 (fun H locs hP hD hS => ?_)
                have hP : va_P (dC, dI) vwCl [(h, .inr (2, [.ref tp, .ref ip, .ref wd, .int (iI (lf)), .int (iI (x))])), (ip, .inr (0, [.int (iI ((lim : Int))), .ref iq, .int (iI ((n : Int)))])), (iq, .inl (cB, il, .inl (f)))] H := hP
                have hD : va_D A [(h, .inr (2, [.ref tp, .ref ip, .ref wd, .int (iI (lf)), .int (iI (x))])), (ip, .inr (0, [.int (iI ((lim : Int))), .ref iq, .int (iI ((n : Int)))])), (iq, .inl (cB, il, .inl (f)))] := hD
                refine lv_iconst (v := iI (1)) hx hb dX2_readNumber_124 rfl ?_
                exact W.zret (v := iI (1)) hx hb hr (by rfl) (fun t ht hW => ⟨⟨iI (1), (x), rfl, ⟨by rw [hZ1, ← hz]; rfl, by rw [hZ1, ← hz]; rfl⟩, by rw [ht]; exact hP, va_K.moved hW.alike hK, hD⟩, hS.F ht⟩) hS.2.2 dX2_readNumber_125
              · exact absurd cq6 (by omega)
            · exact absurd cq5 (by omega)
          | succ k ih =>
            intro i x ls hk hi0 hz hl
            refine lv_iload hx hb dX2_readNumber_56 (lv_at hl 0 rfl) ?_
            refine lv_iload_n hx hb dX2_readNumber_58 rfl (lv_at hl 6 rfl) ?_
            refine lx_icmp_ge (a := i) (b := st) (tgt := 108) hx hb dX2_readNumber_59 (by decide) (by omega) (by omega) (fun cq7 => ?_) (fun cq7 => ?_)
            · exact absurd cq7 (by omega)
            · refine lv_aload_n hx hb dX2_readNumber_62 rfl (lv_at hl 4 rfl) ?_
              refine va_get (D := (dC, dI)) (ci := 2) (v := .ref ip) (C := "RequestCutter") (T := TX2) (N := 5) hx hb hts (fun w h => List.mem_cons_of_mem _ (inX2 w h)) hown hK hP 0 rfl rfl 1 (by decide) (hts _ (List.mem_cons_of_mem _ tw_76)) (fun _ h9 => h9) rfl dX2_readNumber_63 ?_
              refine lv_iload hx hb dX2_readNumber_66 (lv_at hl 0 rfl) ?_
              have g_at := bA_rg f n (i)
              refine vx_Vs (As := [.int (iI (i))]) (rest := []) (ci := 0) (q0 := 0) [1, 2] ⟨hx, hb, hml, hown, hts⟩ (c_X0_at l dC dI cB cI ip iq lim il n f hc hn (i) (by omega)) (cwV 1 hts (gd_V tw_158 tw_159 tw_160 tw_20 tw_161) rfl rfl rfl (by decide +kernel) ⟨Nat.le_of_ble_eq_true rfl, Nat.le_of_ble_eq_true rfl⟩) hK hP rfl rfl rfl rfl rfl hl.1 rfl (Nat.le_of_ble_eq_true rfl) dX2_readNumber_68 ⟨Nat.zero_le _, Nat.zero_le _⟩ (fun r hr => ?_)
              obtain rfl : r = iI (bA f n (i)) := hr
              refine lv_istore (lv' := [(7, .int (iI (bA f n (i)))), (6, .int (iI (i))), (5, .int (iI (x))), (4, .int (iI (fr))), (3, .int (iI (0))), (0, .ref h), (1, .int (iI (fr))), (2, .int (iI (st)))]) hx hb dX2_readNumber_71 hl (by decide) rfl (fun ls hl => ?_)
              refine lv_iload hx hb dX2_readNumber_73 (lv_at hl 0 rfl) ?_
              refine lv_bipush (v := iI (48)) hx hb dX2_readNumber_75 (by decide) ?_
              refine lx_icmp_lt (a := bA f n (i)) (b := 48) (tgt := 87) hx hb dX2_readNumber_77 (by decide) (by omega) (by omega) (fun cq8 => ?_) (fun cq8 => ?_)
              · refine lv_iconst (v := iI (0)) hx hb dX2_readNumber_87 rfl ?_
                have hn : Z = none := by rw [← hz]; exact if_pos (by omega)
                exact W.zret (v := iI (0)) hx hb hr (by rfl) (fun t ht hW => ⟨⟨iI (0), ln, rfl, ⟨by rw [hZ1, hn]; rfl, by rw [hZ1, hn]; rfl⟩, by rw [ht]; exact hP, va_K.moved hW.alike hK, hD⟩, hS.F ht⟩) hS.2.2 dX2_readNumber_88
              · refine lv_iload hx hb dX2_readNumber_80 (lv_at hl 0 rfl) ?_
                refine lv_bipush (v := iI (57)) hx hb dX2_readNumber_82 (by decide) ?_
                refine lx_icmp_le (a := bA f n (i)) (b := 57) (tgt := 89) hx hb dX2_readNumber_84 (by decide) (by omega) (by omega) (fun cq9 => ?_) (fun cq9 => ?_)
                · refine lv_iload hx hb dX2_readNumber_89 (lv_at hl 2 rfl) ?_
                  refine lv_bipush (v := iI (10)) hx hb dX2_readNumber_91 (by decide) ?_
                  refine lx_imul (a := x) (b := 10) hx hb dX2_readNumber_93 ?_
                  refine lv_iload hx hb dX2_readNumber_94 (lv_at hl 0 rfl) ?_
                  refine lv_bipush (v := iI (48)) hx hb dX2_readNumber_96 (by decide) ?_
                  refine lx_isub (a := bA f n (i)) (b := 48) hx hb dX2_readNumber_98 ?_
                  refine lx_iadd (a := x * 10) (b := (bA f n (i)) - 48) hx hb dX2_readNumber_99 ?_
                  refine lv_istore (lv' := [(5, .int (iI ((x * 10) + ((bA f n (i)) - 48)))), (7, .int (iI (bA f n (i)))), (6, .int (iI (i))), (4, .int (iI (fr))), (3, .int (iI (0))), (0, .ref h), (1, .int (iI (fr))), (2, .int (iI (st)))]) hx hb dX2_readNumber_100 hl (by decide) rfl (fun ls hl => ?_)
                  refine lv_iinc (v := iI (i + 1)) (lv' := [(6, .int (iI (i + 1))), (5, .int (iI ((x * 10) + ((bA f n (i)) - 48)))), (7, .int (iI (bA f n (i)))), (4, .int (iI (fr))), (3, .int (iI (0))), (0, .ref h), (1, .int (iI (fr))), (2, .int (iI (st)))]) hx hb dX2_readNumber_102 hl (k := 2) rfl (iI_add _ _) (by decide) rfl (fun ls hl => ?_)
                  refine lv_goto (tgt := 56) hx hb dX2_readNumber_105 (by decide) ?_
                  exact ih (i + 1) ((x * 10) + ((bA f n (i)) - 48)) ls (by omega) (by omega) (by rw [← hz]; exact (if_neg (by omega)).symm) (lv_sub hl [0, 1, 3, 4, 5, 6, 7] rfl)
                · refine lv_iconst (v := iI (0)) hx hb dX2_readNumber_87 rfl ?_
                  have hn : Z = none := by rw [← hz]; exact if_pos (by omega)
                  exact W.zret (v := iI (0)) hx hb hr (by rfl) (fun t ht hW => ⟨⟨iI (0), ln, rfl, ⟨by rw [hZ1, hn]; rfl, by rw [hZ1, hn]; rfl⟩, by rw [ht]; exact hP, va_K.moved hW.alike hK, hD⟩, hS.F ht⟩) hS.2.2 dX2_readNumber_88
        · refine lv_iconst (v := iI (0)) hx hb dX2_readNumber_47 rfl ?_
          have hn : zNum (bA f n) fr st = none := zNum_0 (by rw [if_neg (by omega)]; omega)
          exact W.zret (v := iI (0)) hx hb hr (by rfl) (fun t ht hW => ⟨⟨iI (0), ln, rfl, ⟨by rw [hn]; rfl, by rw [hn]; rfl⟩, by rw [ht]; exact hP, va_K.moved hW.alike hK, hD⟩, hS.F ht⟩) hS.2.2 dX2_readNumber_48
    · exact absurd cq2 (by omega)
  · refine lv_iconst (v := iI (1)) hx hb dX2_readNumber_13 rfl ?_
    refine lv_goto (tgt := 18) hx hb dX2_readNumber_14 (by decide) ?_
    refine lv_istore_n (lv' := [(3, .int (iI (1))), (0, .ref h), (1, .int (iI (fr))), (2, .int (iI (st)))]) hx hb dX2_readNumber_18 rfl hl (by decide) rfl (fun ls hl => ?_)
    refine lv_iload_n hx hb dX2_readNumber_19 rfl (lv_at hl 0 rfl) ?_
    refine lx_if_eq (a := 1) (tgt := 29) hx hb dX2_readNumber_20 (by decide) (by omega) (fun cq10 => ?_) (fun cq10 => ?_)
    · exact absurd cq10 (by omega)
    · refine lv_iload_n hx hb dX2_readNumber_23 rfl (lv_at hl 2 rfl) ?_
      refine lv_iconst (v := iI (1)) hx hb dX2_readNumber_24 rfl ?_
      refine lx_iadd (a := fr) (b := 1) hx hb dX2_readNumber_25 ?_
      refine lv_goto (tgt := 30) hx hb dX2_readNumber_26 (by decide) ?_
      refine lv_istore (lv' := [(4, .int (iI (fr + 1))), (3, .int (iI (1))), (0, .ref h), (1, .int (iI (fr))), (2, .int (iI (st)))]) hx hb dX2_readNumber_30 hl (by decide) rfl (fun ls hl => ?_)
      refine lv_iload_n hx hb dX2_readNumber_32 rfl (lv_at hl 4 rfl) ?_
      refine lv_iload hx hb dX2_readNumber_33 (lv_at hl 0 rfl) ?_
      refine lx_icmp_le (a := st) (b := fr + 1) (tgt := 47) hx hb dX2_readNumber_35 (by decide) (by omega) (by omega) (fun cq11 => ?_) (fun cq11 => ?_)
      · refine lv_iconst (v := iI (0)) hx hb dX2_readNumber_47 rfl ?_
        have hn : zNum (bA f n) fr st = none := zNum_0 (by rw [if_pos (by omega)]; omega)
        exact W.zret (v := iI (0)) hx hb hr (by rfl) (fun t ht hW => ⟨⟨iI (0), ln, rfl, ⟨by rw [hn]; rfl, by rw [hn]; rfl⟩, by rw [ht]; exact hP, va_K.moved hW.alike hK, hD⟩, hS.F ht⟩) hS.2.2 dX2_readNumber_48
      · refine lv_iload_n hx hb dX2_readNumber_38 rfl (lv_at hl 4 rfl) ?_
        refine lv_iload hx hb dX2_readNumber_39 (lv_at hl 0 rfl) ?_
        refine lx_isub (a := st) (b := fr + 1) hx hb dX2_readNumber_41 ?_
        refine lv_bipush (v := iI (6)) hx hb dX2_readNumber_42 (by decide) ?_
        refine lx_icmp_le (a := st - (fr + 1)) (b := 6) (tgt := 49) hx hb dX2_readNumber_44 (by decide) (by omega) (by omega) (fun cq12 => ?_) (fun cq12 => ?_)
        · refine lv_iconst (v := iI (0)) hx hb dX2_readNumber_49 rfl ?_
          refine lv_istore (lv' := [(5, .int (iI (0))), (4, .int (iI (fr + 1))), (3, .int (iI (1))), (0, .ref h), (1, .int (iI (fr))), (2, .int (iI (st)))]) hx hb dX2_readNumber_50 hl (by decide) rfl (fun ls hl => ?_)
          refine lv_iload hx hb dX2_readNumber_52 (lv_at hl 1 rfl) ?_
          refine lv_istore (lv' := [(6, .int (iI (fr + 1))), (5, .int (iI (0))), (4, .int (iI (fr + 1))), (3, .int (iI (1))), (0, .ref h), (1, .int (iI (fr))), (2, .int (iI (st)))]) hx hb dX2_readNumber_54 hl (by decide) rfl (fun ls hl => ?_)
          obtain ⟨Z, hZ⟩ : ∃ Z, Z = zDig (bA f n) (st - (fr + 1)).toNat (fr + 1) 0 := ⟨_, rfl⟩
          have hZ1 : zNum (bA f n) fr st = Z.map (fun x => -x) := by rw [hZ]; exact zNum_m (by omega) (by omega)
          refine (?_ : ∀ (k : Nat) (i : Int) (x : Int) (ls : Array Slot), i + k = st → 0 ≤ i → zDig (bA f n) k i x = Z → lv_has ls 8 [(6, .int (iI (i))), (5, .int (iI (x))), (4, .int (iI (fr + 1))), (3, .int (iI (1))), (0, .ref h), (1, .int (iI (fr))), (2, .int (iI (st)))] → W p l e _ s m _ below meth c _ _ _ _ _ (F0 m 56 ls [])) ((st - (fr + 1)).toNat) (fr + 1) (0) ls (by omega) (by omega) (hZ.symm) (lv_sub hl [0, 1, 2, 3, 4, 5, 6] rfl)
          intro k
          induction k with
          | zero =>
            intro i x ls hk hi0 hz hl
            refine lv_iload hx hb dX2_readNumber_56 (lv_at hl 0 rfl) ?_
            refine lv_iload_n hx hb dX2_readNumber_58 rfl (lv_at hl 6 rfl) ?_
            refine lx_icmp_ge (a := i) (b := st) (tgt := 108) hx hb dX2_readNumber_59 (by decide) (by omega) (by omega) (fun cq13 => ?_) (fun cq13 => ?_)
            · refine lv_aload_n hx hb dX2_readNumber_108 rfl (lv_at hl 4 rfl) ?_
              refine lv_iload_n hx hb dX2_readNumber_109 rfl (lv_at hl 3 rfl) ?_
              refine lx_if_eq (a := 1) (tgt := 119) hx hb dX2_readNumber_110 (by decide) (by omega) (fun cq14 => ?_) (fun cq14 => ?_)
              · exact absurd cq14 (by omega)
              · refine lv_iload hx hb dX2_readNumber_113 (lv_at hl 1 rfl) ?_
                refine lx_ineg (a := x) hx hb dX2_readNumber_115 ?_
                refine lv_goto (tgt := 121) hx hb dX2_readNumber_116 (by decide) ?_
                refine va_put (D := (dC, dI)) (ci := 2) (v := .int (iI (-(x)))) (ty := .int) (C := "RequestCutter") (T := TX2) (N := 5) hx hb hts (fun w h => List.mem_cons_of_mem _ (inX2 w h)) tyX2 tyX2_ok nmX2 hown hK hP hD hS 0 rfl rfl 4 (by decide) (hts _ (List.mem_cons_of_mem _ tw_79)) (fun _ h9 => h9) rfl (by decide +kernel) rfl rfl (Nat.le_of_ble_eq_true rfl) dX2_readNumber_121 (fun H locs hP hD hS => ?_)
                have hP : va_P (dC, dI) vwCl [(h, .inr (2, [.ref tp, .ref ip, .ref wd, .int (iI (lf)), .int (iI (-(x)))])), (ip, .inr (0, [.int (iI ((lim : Int))), .ref iq, .int (iI ((n : Int)))])), (iq, .inl (cB, il, .inl (f)))] H := hP
                have hD : va_D A [(h, .inr (2, [.ref tp, .ref ip, .ref wd, .int (iI (lf)), .int (iI (-(x)))])), (ip, .inr (0, [.int (iI ((lim : Int))), .ref iq, .int (iI ((n : Int)))])), (iq, .inl (cB, il, .inl (f)))] := hD
                refine lv_iconst (v := iI (1)) hx hb dX2_readNumber_124 rfl ?_
                exact W.zret (v := iI (1)) hx hb hr (by rfl) (fun t ht hW => ⟨⟨iI (1), (-(x)), rfl, ⟨by rw [hZ1, ← hz]; rfl, by rw [hZ1, ← hz]; rfl⟩, by rw [ht]; exact hP, va_K.moved hW.alike hK, hD⟩, hS.F ht⟩) hS.2.2 dX2_readNumber_125
            · exact absurd cq13 (by omega)
          | succ k ih =>
            intro i x ls hk hi0 hz hl
            refine lv_iload hx hb dX2_readNumber_56 (lv_at hl 0 rfl) ?_
            refine lv_iload_n hx hb dX2_readNumber_58 rfl (lv_at hl 6 rfl) ?_
            refine lx_icmp_ge (a := i) (b := st) (tgt := 108) hx hb dX2_readNumber_59 (by decide) (by omega) (by omega) (fun cq15 => ?_) (fun cq15 => ?_)
            · exact absurd cq15 (by omega)
            · refine lv_aload_n hx hb dX2_readNumber_62 rfl (lv_at hl 4 rfl) ?_
              refine va_get (D := (dC, dI)) (ci := 2) (v := .ref ip) (C := "RequestCutter") (T := TX2) (N := 5) hx hb hts (fun w h => List.mem_cons_of_mem _ (inX2 w h)) hown hK hP 0 rfl rfl 1 (by decide) (hts _ (List.mem_cons_of_mem _ tw_76)) (fun _ h9 => h9) rfl dX2_readNumber_63 ?_
              refine lv_iload hx hb dX2_readNumber_66 (lv_at hl 0 rfl) ?_
              have g_at := bA_rg f n (i)
              refine vx_Vs (As := [.int (iI (i))]) (rest := []) (ci := 0) (q0 := 0) [1, 2] ⟨hx, hb, hml, hown, hts⟩ (c_X0_at l dC dI cB cI ip iq lim il n f hc hn (i) (by omega)) (cwV 1 hts (gd_V tw_158 tw_159 tw_160 tw_20 tw_161) rfl rfl rfl (by decide +kernel) ⟨Nat.le_of_ble_eq_true rfl, Nat.le_of_ble_eq_true rfl⟩) hK hP rfl rfl rfl rfl rfl hl.1 rfl (Nat.le_of_ble_eq_true rfl) dX2_readNumber_68 ⟨Nat.zero_le _, Nat.zero_le _⟩ (fun r hr => ?_)
              obtain rfl : r = iI (bA f n (i)) := hr
              refine lv_istore (lv' := [(7, .int (iI (bA f n (i)))), (6, .int (iI (i))), (5, .int (iI (x))), (4, .int (iI (fr + 1))), (3, .int (iI (1))), (0, .ref h), (1, .int (iI (fr))), (2, .int (iI (st)))]) hx hb dX2_readNumber_71 hl (by decide) rfl (fun ls hl => ?_)
              refine lv_iload hx hb dX2_readNumber_73 (lv_at hl 0 rfl) ?_
              refine lv_bipush (v := iI (48)) hx hb dX2_readNumber_75 (by decide) ?_
              refine lx_icmp_lt (a := bA f n (i)) (b := 48) (tgt := 87) hx hb dX2_readNumber_77 (by decide) (by omega) (by omega) (fun cq16 => ?_) (fun cq16 => ?_)
              · refine lv_iconst (v := iI (0)) hx hb dX2_readNumber_87 rfl ?_
                have hn : Z = none := by rw [← hz]; exact if_pos (by omega)
                exact W.zret (v := iI (0)) hx hb hr (by rfl) (fun t ht hW => ⟨⟨iI (0), ln, rfl, ⟨by rw [hZ1, hn]; rfl, by rw [hZ1, hn]; rfl⟩, by rw [ht]; exact hP, va_K.moved hW.alike hK, hD⟩, hS.F ht⟩) hS.2.2 dX2_readNumber_88
              · refine lv_iload hx hb dX2_readNumber_80 (lv_at hl 0 rfl) ?_
                refine lv_bipush (v := iI (57)) hx hb dX2_readNumber_82 (by decide) ?_
                refine lx_icmp_le (a := bA f n (i)) (b := 57) (tgt := 89) hx hb dX2_readNumber_84 (by decide) (by omega) (by omega) (fun cq17 => ?_) (fun cq17 => ?_)
                · refine lv_iload hx hb dX2_readNumber_89 (lv_at hl 2 rfl) ?_
                  refine lv_bipush (v := iI (10)) hx hb dX2_readNumber_91 (by decide) ?_
                  refine lx_imul (a := x) (b := 10) hx hb dX2_readNumber_93 ?_
                  refine lv_iload hx hb dX2_readNumber_94 (lv_at hl 0 rfl) ?_
                  refine lv_bipush (v := iI (48)) hx hb dX2_readNumber_96 (by decide) ?_
                  refine lx_isub (a := bA f n (i)) (b := 48) hx hb dX2_readNumber_98 ?_
                  refine lx_iadd (a := x * 10) (b := (bA f n (i)) - 48) hx hb dX2_readNumber_99 ?_
                  refine lv_istore (lv' := [(5, .int (iI ((x * 10) + ((bA f n (i)) - 48)))), (7, .int (iI (bA f n (i)))), (6, .int (iI (i))), (4, .int (iI (fr + 1))), (3, .int (iI (1))), (0, .ref h), (1, .int (iI (fr))), (2, .int (iI (st)))]) hx hb dX2_readNumber_100 hl (by decide) rfl (fun ls hl => ?_)
                  refine lv_iinc (v := iI (i + 1)) (lv' := [(6, .int (iI (i + 1))), (5, .int (iI ((x * 10) + ((bA f n (i)) - 48)))), (7, .int (iI (bA f n (i)))), (4, .int (iI (fr + 1))), (3, .int (iI (1))), (0, .ref h), (1, .int (iI (fr))), (2, .int (iI (st)))]) hx hb dX2_readNumber_102 hl (k := 2) rfl (iI_add _ _) (by decide) rfl (fun ls hl => ?_)
                  refine lv_goto (tgt := 56) hx hb dX2_readNumber_105 (by decide) ?_
                  exact ih (i + 1) ((x * 10) + ((bA f n (i)) - 48)) ls (by omega) (by omega) (by rw [← hz]; exact (if_neg (by omega)).symm) (lv_sub hl [0, 1, 3, 4, 5, 6, 7] rfl)
                · refine lv_iconst (v := iI (0)) hx hb dX2_readNumber_87 rfl ?_
                  have hn : Z = none := by rw [← hz]; exact if_pos (by omega)
                  exact W.zret (v := iI (0)) hx hb hr (by rfl) (fun t ht hW => ⟨⟨iI (0), ln, rfl, ⟨by rw [hZ1, hn]; rfl, by rw [hZ1, hn]; rfl⟩, by rw [ht]; exact hP, va_K.moved hW.alike hK, hD⟩, hS.F ht⟩) hS.2.2 dX2_readNumber_88
        · refine lv_iconst (v := iI (0)) hx hb dX2_readNumber_47 rfl ?_
          have hn : zNum (bA f n) fr st = none := zNum_0 (by rw [if_pos (by omega)]; omega)
          exact W.zret (v := iI (0)) hx hb hr (by rfl) (fun t ht hW => ⟨⟨iI (0), ln, rfl, ⟨by rw [hn]; rfl, by rw [hn]; rfl⟩, by rw [ht]; exact hP, va_K.moved hW.alike hK, hD⟩, hS.F ht⟩) hS.2.2 dX2_readNumber_48
set_option maxHeartbeats 4000000 in
set_option maxRecDepth 100000 in
/-- scanLine(from, least, most, faultOfLine) -/
theorem c_X2_scanLine (l : Launch) (dC : Nat → ClassId) (dI : Nat → Nat → Nat) (cB cI : ClassId) (sz : Nat) (h tp ip wd iq lim il n : Nat) (f : Nat → Int32) (lf ln : Int) (hc : n ≤ il) (hn : il ≤ 65536) (hln : -2147483648 ≤ ln ∧ ln ≤ 2147483647) (fr least most ft : Int) (hfr : 0 ≤ fr ∧ fr ≤ 90000) (hle : -2147483648 ≤ least ∧ least ≤ 2147483647) (hmo : -2147483648 ≤ most ∧ most ≤ 2147483647) : Met l yX2_scanLine wX2_scanLine ({ frames := 2, cells := 0, slots := 0, locals := 48 }) (va_Pc [.ref h, .int (iI (fr)), .int (iI (least)), .int (iI (most)), .int (iI (ft))] (vx_B (dC, dI) vwCl [(cB, .byte), (cI, .int)] [(h, .inr (2, [.ref tp, .ref ip, .ref wd, .int (iI (lf)), .int (iI (ln))])), (ip, .inr (0, [.int (iI ((lim : Int))), .ref iq, .int (iI ((n : Int)))])), (iq, .inl (cB, il, .inl (f)))] sz)) (va_Qi (fun (r : Int32) (u : Int × Int) => r = iI (zLine (bA f n) n fr least most).1 ∧ (0 ≤ (zLine (bA f n) n fr least most).1 → u.2 = (zLine (bA f n) n fr least most).2) ∧ (-2147483648 ≤ u.2 ∧ u.2 ≤ 2147483647) ∧ u.1 = (if (zLine (bA f n) n fr least most).1 = -2 then ft else lf)) (fun (u : Int × Int) => vx_E (dC, dI) vwCl [(cB, .byte), (cI, .int)] (va_A [(h, .inr (2, [.ref tp, .ref ip, .ref wd, .int (iI (lf)), .int (iI (ln))])), (ip, .inr (0, [.int (iI ((lim : Int))), .ref iq, .int (iI ((n : Int)))])), (iq, .inl (cB, il, .inl (f)))] sz) [(h, .inr (2, [.ref tp, .ref ip, .ref wd, .int (iI (u.1)), .int (iI (u.2))])), (ip, .inr (0, [.int (iI ((lim : Int))), .ref iq, .int (iI ((n : Int)))])), (iq, .inl (cB, il, .inl (f)))]) (va_A [(h, .inr (2, [.ref tp, .ref ip, .ref wd, .int (iI (lf)), .int (iI (ln))])), (ip, .inr (0, [.int (iI ((lim : Int))), .ref iq, .int (iI ((n : Int)))])), (iq, .inl (cB, il, .inl (f)))] sz)) (0) (0) (va_A [(h, .inr (2, [.ref tp, .ref ip, .ref wd, .int (iI (lf)), .int (iI (ln))])), (ip, .inr (0, [.int (iI ((lim : Int))), .ref iq, .int (iI ((n : Int)))])), (iq, .inl (cB, il, .inl (f)))] sz) := by
  refine Met.ofW (cc := cX2_scanLine) (maxL := 6) (ret := (some .int)) (by decide) rfl ?_
  intro p e s m args below meth c s₁ B hml hv
  obtain ⟨rfl, hsz, hP, hK, hD0⟩ := hv
  have hx := B.exec
  have hb := B.bytes
  have hr := B.returns
  have hts := atoms_spec (ws := wX2_scanLine) B.pre
  have hown : s.vm.findClass "RequestCutter" = some m.cls := findClass_of_methodNamed B.named
  have hlocks := B.notSynchronized
  subst hsz
  have hD := hD0.self (sz := s.heap.size)
  generalize hAe : va_A [(h, .inr (2, [.ref tp, .ref ip, .ref wd, .int (iI (lf)), .int (iI (ln))])), (ip, .inr (0, [.int (iI ((lim : Int))), .ref iq, .int (iI ((n : Int)))])), (iq, .inl (cB, il, .inl (f)))] s.heap.size = A at hD ⊢
  have hA : ∀ q : Nat, s.heap.size ≤ q → A q := fun q h => by rw [← hAe]; exact Or.inr h
  have hS : va_S A s.heap s.heap [] := va_S.rf
  have hP : va_P (dC, dI) vwCl [(h, .inr (2, [.ref tp, .ref ip, .ref wd, .int (iI (lf)), .int (iI (ln))])), (ip, .inr (0, [.int (iI ((lim : Int))), .ref iq, .int (iI ((n : Int)))])), (iq, .inl (cB, il, .inl (f)))] s.heap := hP
  have hl := lv_entry ([.ref h, .int (iI (fr)), .int (iI (least)), .int (iI (most)), .int (iI (ft))]) (n := 6) (Nat.le_of_ble_eq_true rfl)
  rw [lg_entry_eq]
  generalize (lg_sl ([.ref h, .int (iI (fr)), .int (iI (least)), .int (iI (most)), .int (iI (ft))]) ++ List.replicate (6 - (lg_sl ([.ref h, .int (iI (fr)), .int (iI (least)), .int (iI (most)), .int (iI (ft))])).length) Slot.unset).toArray = ls at hl ⊢
  have hl : lv_has ls 6 [(0, .ref h), (1, .int (iI (fr))), (2, .int (iI (least))), (3, .int (iI (most))), (4, .int (iI (ft)))] := hl
  refine lv_aload_n hx hb dX2_scanLine_0 rfl (lv_at hl 0 rfl) ?_
  refine lv_iload_n hx hb dX2_scanLine_1 rfl (lv_at hl 1 rfl) ?_
  have gS := zStop_rg (bA f n) fr
  refine vx_Vs (As := [.int (iI (fr))]) (rest := []) (ci := 2) (q0 := 0) [0, 1, 2] ⟨hx, hb, hml, hown, hts⟩ (c_X2_findLineStop l dC dI cB cI h tp ip wd iq lim il n f lf ln hc hn fr (by omega)) (cwV 1 hts (gd_V tw_171 tw_173 tw_2 tw_19 tw_174) rfl rfl rfl (by decide +kernel) ⟨Nat.le_of_ble_eq_true rfl, Nat.le_of_ble_eq_true rfl⟩) hK hP rfl rfl rfl rfl rfl hl.1 rfl (Nat.le_of_ble_eq_true rfl) dX2_scanLine_2 ⟨Nat.zero_le _, Nat.zero_le _⟩ (fun r hr => ?_)
  obtain rfl : r = iI (zStop (bA f n) fr) := hr
  refine lv_istore (lv' := [(5, .int (iI (zStop (bA f n) fr))), (0, .ref h), (1, .int (iI (fr))), (2, .int (iI (least))), (3, .int (iI (most))), (4, .int (iI (ft)))]) hx hb dX2_scanLine_5 hl (by decide) rfl (fun ls hl => ?_)
  refine lv_iload hx hb dX2_scanLine_7 (lv_at hl 0 rfl) ?_
  refine lv_iconst (v := iI (-1)) hx hb dX2_scanLine_9 rfl ?_
  refine lx_icmp_ne (a := zStop (bA f n) fr) (b := -1) (tgt := 38) hx hb dX2_scanLine_10 (by decide) (by omega) (by omega) (fun cq1 => ?_) (fun cq1 => ?_)
  · refine lv_aload_n hx hb dX2_scanLine_38 rfl (lv_at hl 1 rfl) ?_
    refine lv_iload_n hx hb dX2_scanLine_39 rfl (lv_at hl 2 rfl) ?_
    refine lv_iconst (v := iI (1)) hx hb dX2_scanLine_40 rfl ?_
    refine lx_iadd (a := fr) (b := 1) hx hb dX2_scanLine_41 ?_
    refine lv_iload hx hb dX2_scanLine_42 (lv_at hl 0 rfl) ?_
    refine vx_Vi (As := [.int (iI (fr + 1)), .int (iI (zStop (bA f n) fr))]) (rest := []) (wr := []) (ci := 2) (q0 := 0) [0, 1, 2] [] ⟨hx, hb, hml, hown, hts⟩ (c_X2_readNumber l dC dI cB cI _ h tp ip wd iq lim il n f lf ln hc hn (fr + 1) (zStop (bA f n) fr) (by omega) (by omega)) (cwV 2 hts (gd_V tw_179 tw_181 tw_4 tw_19 tw_182) rfl rfl rfl (by decide +kernel) ⟨Nat.le_of_ble_eq_true rfl, Nat.le_of_ble_eq_true rfl⟩) hK hP hD hS hA rfl rfl rfl rfl (by decide) rfl rfl rfl rfl hl.1 rfl (Nat.le_of_ble_eq_true rfl) dX2_scanLine_44 ⟨Nat.zero_le _, Nat.zero_le _⟩ (fun r u H locs hw hP hD hS => ?_)
    obtain ⟨z, rfl⟩ : ∃ z, z = u := ⟨_, rfl⟩
    try dsimp only at hw hP hD
    obtain ⟨hr1, hz1⟩ := hw
    have hP : va_P (dC, dI) vwCl [(h, .inr (2, [.ref tp, .ref ip, .ref wd, .int (iI (lf)), .int (iI (z))])), (ip, .inr (0, [.int (iI ((lim : Int))), .ref iq, .int (iI ((n : Int)))])), (iq, .inl (cB, il, .inl (f)))] H := hP.sub [0, 1, 2] rfl
    have hD : va_D A [(h, .inr (2, [.ref tp, .ref ip, .ref wd, .int (iI (lf)), .int (iI (z))])), (ip, .inr (0, [.int (iI ((lim : Int))), .ref iq, .int (iI ((n : Int)))])), (iq, .inl (cB, il, .inl (f)))] := hD.sub [0, 1, 2] (by decide) rfl
    obtain ⟨b1, hb1, rfl⟩ := bo_of hr1
    have gz : -2147483648 ≤ z ∧ z ≤ 2147483647 := by rw [hz1]; exact zNum_d hln
    refine lx_if_eq (a := b1) (tgt := 66) hx hb dX2_scanLine_47 (by decide) (by omega) (fun cq2 => ?_) (fun cq2 => ?_)
    · refine lv_aload_n hx hb dX2_scanLine_66 rfl (lv_at hl 1 rfl) ?_
      refine lv_iload hx hb dX2_scanLine_67 (lv_at hl 5 rfl) ?_
      refine vx_Vi (As := [.int (iI (ft))]) (rest := []) (wr := [(ip, .inr (0, [.int (iI ((lim : Int))), .ref iq, .int (iI ((n : Int)))])), (iq, .inl (cB, il, .inl (f)))]) (ci := 2) (q0 := 0) [0] [1, 2] ⟨hx, hb, hml, hown, hts⟩ (c_X2_tell l dC dI cB cI _ h tp ip wd (lf) (z) (ft)) (cwV 1 hts (gd_V tw_175 tw_177 tw_3 tw_19 tw_178) rfl rfl rfl (by decide +kernel) ⟨Nat.le_of_ble_eq_true rfl, Nat.le_of_ble_eq_true rfl⟩) hK hP hD hS hA rfl rfl rfl rfl (by decide) rfl rfl rfl rfl hl.1 rfl (Nat.le_of_ble_eq_true rfl) dX2_scanLine_69 ⟨Nat.zero_le _, Nat.zero_le _⟩ (fun r u H locs hw hP hD hS => ?_)
      obtain - := u
      try dsimp only at hw hP hD
      obtain rfl := hw
      have hP : va_P (dC, dI) vwCl [(h, .inr (2, [.ref tp, .ref ip, .ref wd, .int (iI (ft)), .int (iI (z))])), (ip, .inr (0, [.int (iI ((lim : Int))), .ref iq, .int (iI ((n : Int)))])), (iq, .inl (cB, il, .inl (f)))] H := hP.sub [2, 0, 1] rfl
      have hD : va_D A [(h, .inr (2, [.ref tp, .ref ip, .ref wd, .int (iI (ft)), .int (iI (z))])), (ip, .inr (0, [.int (iI ((lim : Int))), .ref iq, .int (iI ((n : Int)))])), (iq, .inl (cB, il, .inl (f)))] := hD.sub [2, 0, 1] (by decide) rfl
      have hL : (zLine (bA f n) n fr least most) = (-2, 0) := by
        by_cases q : (zNum (bA f n) (fr + 1) (zStop (bA f n) fr)).isSome = true
        · exact zLine_3 (by omega) q hz1 (by rcases hb1 with ⟨_, e⟩ | ⟨q2, _⟩; (first | omega | exact absurd q q2); exact absurd q q2)
        · exact zLine_2 (by omega) q
      exact W.iret (v := iI (-2)) hx hb hr (fun t ht hW => ⟨⟨iI (-2), (ft, z), rfl, ⟨by rw [hL], fun q => by rw [hL] at q; exact absurd q (by decide), gz, by rw [hL]; exact (if_pos rfl).symm⟩, by rw [ht]; exact hP, va_K.moved hW.alike hK, hD⟩, hS.F ht⟩) hS.2.2 dX2_scanLine_72
    · refine lv_aload_n hx hb dX2_scanLine_50 rfl (lv_at hl 1 rfl) ?_
      refine va_get (D := (dC, dI)) (ci := 2) (v := .int (iI (z))) (C := "RequestCutter") (T := TX2) (N := 5) hx hb hts (fun w h => List.mem_cons_of_mem _ (inX2 w h)) hown hK hP 0 rfl rfl 4 (by decide) (hts _ (List.mem_cons_of_mem _ tw_79)) (fun _ h9 => h9) rfl dX2_scanLine_51 ?_
      refine lv_iload_n hx hb dX2_scanLine_54 rfl (lv_at hl 3 rfl) ?_
      refine lx_icmp_lt (a := z) (b := least) (tgt := 66) hx hb dX2_scanLine_55 (by decide) (by omega) (by omega) (fun cq3 => ?_) (fun cq3 => ?_)
      · refine lv_aload_n hx hb dX2_scanLine_66 rfl (lv_at hl 1 rfl) ?_
        refine lv_iload hx hb dX2_scanLine_67 (lv_at hl 5 rfl) ?_
        refine vx_Vi (As := [.int (iI (ft))]) (rest := []) (wr := [(ip, .inr (0, [.int (iI ((lim : Int))), .ref iq, .int (iI ((n : Int)))])), (iq, .inl (cB, il, .inl (f)))]) (ci := 2) (q0 := 0) [0] [1, 2] ⟨hx, hb, hml, hown, hts⟩ (c_X2_tell l dC dI cB cI _ h tp ip wd (lf) (z) (ft)) (cwV 1 hts (gd_V tw_175 tw_177 tw_3 tw_19 tw_178) rfl rfl rfl (by decide +kernel) ⟨Nat.le_of_ble_eq_true rfl, Nat.le_of_ble_eq_true rfl⟩) hK hP hD hS hA rfl rfl rfl rfl (by decide) rfl rfl rfl rfl hl.1 rfl (Nat.le_of_ble_eq_true rfl) dX2_scanLine_69 ⟨Nat.zero_le _, Nat.zero_le _⟩ (fun r u H locs hw hP hD hS => ?_)
        obtain - := u
        try dsimp only at hw hP hD
        obtain rfl := hw
        have hP : va_P (dC, dI) vwCl [(h, .inr (2, [.ref tp, .ref ip, .ref wd, .int (iI (ft)), .int (iI (z))])), (ip, .inr (0, [.int (iI ((lim : Int))), .ref iq, .int (iI ((n : Int)))])), (iq, .inl (cB, il, .inl (f)))] H := hP.sub [2, 0, 1] rfl
        have hD : va_D A [(h, .inr (2, [.ref tp, .ref ip, .ref wd, .int (iI (ft)), .int (iI (z))])), (ip, .inr (0, [.int (iI ((lim : Int))), .ref iq, .int (iI ((n : Int)))])), (iq, .inl (cB, il, .inl (f)))] := hD.sub [2, 0, 1] (by decide) rfl
        have hL : (zLine (bA f n) n fr least most) = (-2, 0) := by
          by_cases q : (zNum (bA f n) (fr + 1) (zStop (bA f n) fr)).isSome = true
          · exact zLine_3 (by omega) q hz1 (by rcases hb1 with ⟨_, e⟩ | ⟨q2, _⟩; (first | omega | exact absurd q q2); exact absurd q q2)
          · exact zLine_2 (by omega) q
        exact W.iret (v := iI (-2)) hx hb hr (fun t ht hW => ⟨⟨iI (-2), (ft, z), rfl, ⟨by rw [hL], fun q => by rw [hL] at q; exact absurd q (by decide), gz, by rw [hL]; exact (if_pos rfl).symm⟩, by rw [ht]; exact hP, va_K.moved hW.alike hK, hD⟩, hS.F ht⟩) hS.2.2 dX2_scanLine_72
      · refine lv_aload_n hx hb dX2_scanLine_58 rfl (lv_at hl 1 rfl) ?_
        refine va_get (D := (dC, dI)) (ci := 2) (v := .int (iI (z))) (C := "RequestCutter") (T := TX2) (N := 5) hx hb hts (fun w h => List.mem_cons_of_mem _ (inX2 w h)) hown hK hP 0 rfl rfl 4 (by decide) (hts _ (List.mem_cons_of_mem _ tw_79)) (fun _ h9 => h9) rfl dX2_scanLine_59 ?_
        refine lv_iload_n hx hb dX2_scanLine_62 rfl (lv_at hl 4 rfl) ?_
        refine lx_icmp_le (a := z) (b := most) (tgt := 73) hx hb dX2_scanLine_63 (by decide) (by omega) (by omega) (fun cq4 => ?_) (fun cq4 => ?_)
        · refine lv_iload hx hb dX2_scanLine_73 (lv_at hl 0 rfl) ?_
          refine lv_iconst (v := iI (2)) hx hb dX2_scanLine_75 rfl ?_
          refine lx_iadd (a := zStop (bA f n) fr) (b := 2) hx hb dX2_scanLine_76 ?_
          have hL : (zLine (bA f n) n fr least most) = (zStop (bA f n) fr + 2, z) := zLine_4 (by omega) (by rcases hb1 with ⟨q, _⟩ | ⟨_, e⟩; exact q; omega) hz1 (by omega)
          exact W.iret (v := iI ((zStop (bA f n) fr) + 2)) hx hb hr (fun t ht hW => ⟨⟨iI ((zStop (bA f n) fr) + 2), (lf, z), rfl, ⟨by rw [hL], fun q => by rw [hL], gz, by rw [hL]; exact (if_neg (by omega)).symm⟩, by rw [ht]; exact hP, va_K.moved hW.alike hK, hD⟩, hS.F ht⟩) hS.2.2 dX2_scanLine_77
        · refine lv_aload_n hx hb dX2_scanLine_66 rfl (lv_at hl 1 rfl) ?_
          refine lv_iload hx hb dX2_scanLine_67 (lv_at hl 5 rfl) ?_
          refine vx_Vi (As := [.int (iI (ft))]) (rest := []) (wr := [(ip, .inr (0, [.int (iI ((lim : Int))), .ref iq, .int (iI ((n : Int)))])), (iq, .inl (cB, il, .inl (f)))]) (ci := 2) (q0 := 0) [0] [1, 2] ⟨hx, hb, hml, hown, hts⟩ (c_X2_tell l dC dI cB cI _ h tp ip wd (lf) (z) (ft)) (cwV 1 hts (gd_V tw_175 tw_177 tw_3 tw_19 tw_178) rfl rfl rfl (by decide +kernel) ⟨Nat.le_of_ble_eq_true rfl, Nat.le_of_ble_eq_true rfl⟩) hK hP hD hS hA rfl rfl rfl rfl (by decide) rfl rfl rfl rfl hl.1 rfl (Nat.le_of_ble_eq_true rfl) dX2_scanLine_69 ⟨Nat.zero_le _, Nat.zero_le _⟩ (fun r u H locs hw hP hD hS => ?_)
          obtain - := u
          try dsimp only at hw hP hD
          obtain rfl := hw
          have hP : va_P (dC, dI) vwCl [(h, .inr (2, [.ref tp, .ref ip, .ref wd, .int (iI (ft)), .int (iI (z))])), (ip, .inr (0, [.int (iI ((lim : Int))), .ref iq, .int (iI ((n : Int)))])), (iq, .inl (cB, il, .inl (f)))] H := hP.sub [2, 0, 1] rfl
          have hD : va_D A [(h, .inr (2, [.ref tp, .ref ip, .ref wd, .int (iI (ft)), .int (iI (z))])), (ip, .inr (0, [.int (iI ((lim : Int))), .ref iq, .int (iI ((n : Int)))])), (iq, .inl (cB, il, .inl (f)))] := hD.sub [2, 0, 1] (by decide) rfl
          have hL : (zLine (bA f n) n fr least most) = (-2, 0) := by
            by_cases q : (zNum (bA f n) (fr + 1) (zStop (bA f n) fr)).isSome = true
            · exact zLine_3 (by omega) q hz1 (by rcases hb1 with ⟨_, e⟩ | ⟨q2, _⟩; (first | omega | exact absurd q q2); exact absurd q q2)
            · exact zLine_2 (by omega) q
          exact W.iret (v := iI (-2)) hx hb hr (fun t ht hW => ⟨⟨iI (-2), (ft, z), rfl, ⟨by rw [hL], fun q => by rw [hL] at q; exact absurd q (by decide), gz, by rw [hL]; exact (if_pos rfl).symm⟩, by rw [ht]; exact hP, va_K.moved hW.alike hK, hD⟩, hS.F ht⟩) hS.2.2 dX2_scanLine_72
  · refine lv_aload_n hx hb dX2_scanLine_13 rfl (lv_at hl 1 rfl) ?_
    refine va_get (D := (dC, dI)) (ci := 2) (v := .ref ip) (C := "RequestCutter") (T := TX2) (N := 5) hx hb hts (fun w h => List.mem_cons_of_mem _ (inX2 w h)) hown hK hP 0 rfl rfl 1 (by decide) (hts _ (List.mem_cons_of_mem _ tw_76)) (fun _ h9 => h9) rfl dX2_scanLine_14 ?_
    refine vx_Vs (As := []) (rest := []) (ci := 0) (q0 := 0) [1] ⟨hx, hb, hml, hown, hts⟩ (c_X0_count l dC dI cB cI ip iq lim n) (cwV 0 hts (gd_V tw_135 tw_136 tw_137 tw_20 tw_138) rfl rfl rfl (by decide +kernel) ⟨Nat.le_of_ble_eq_true rfl, Nat.le_of_ble_eq_true rfl⟩) hK hP rfl rfl rfl rfl rfl hl.1 rfl (Nat.le_of_ble_eq_true rfl) dX2_scanLine_17 ⟨Nat.zero_le _, Nat.zero_le _⟩ (fun r hr => ?_)
    obtain rfl : r = iI ((n : Int)) := hr
    refine lv_iload_n hx hb dX2_scanLine_20 rfl (lv_at hl 2 rfl) ?_
    refine lx_isub (a := (n : Int)) (b := fr) hx hb dX2_scanLine_21 ?_
    refine lv_bipush (v := iI (16)) hx hb dX2_scanLine_22 (by decide) ?_
    refine lx_icmp_lt (a := ((n : Int)) - fr) (b := 16) (tgt := 36) hx hb dX2_scanLine_24 (by decide) (by omega) (by omega) (fun cq5 => ?_) (fun cq5 => ?_)
    · refine lv_iconst (v := iI (-1)) hx hb dX2_scanLine_36 rfl ?_
      have hL : (zLine (bA f n) n fr least most) = (-1, 0) := by rw [zLine_1 (by omega), if_neg (by omega)]
      exact W.iret (v := iI (-1)) hx hb hr (fun t ht hW => ⟨⟨iI (-1), (lf, ln), rfl, ⟨by rw [hL], fun q => by rw [hL] at q; exact absurd q (by decide), hln, by rw [hL]; exact (if_neg (by decide)).symm⟩, by rw [ht]; exact hP, va_K.moved hW.alike hK, hD⟩, hS.F ht⟩) hS.2.2 dX2_scanLine_37
    · refine lv_aload_n hx hb dX2_scanLine_27 rfl (lv_at hl 1 rfl) ?_
      refine lv_iload hx hb dX2_scanLine_28 (lv_at hl 5 rfl) ?_
      refine vx_Vi (As := [.int (iI (ft))]) (rest := []) (wr := [(ip, .inr (0, [.int (iI ((lim : Int))), .ref iq, .int (iI ((n : Int)))])), (iq, .inl (cB, il, .inl (f)))]) (ci := 2) (q0 := 0) [0] [1, 2] ⟨hx, hb, hml, hown, hts⟩ (c_X2_tell l dC dI cB cI _ h tp ip wd (lf) (ln) (ft)) (cwV 1 hts (gd_V tw_175 tw_177 tw_3 tw_19 tw_178) rfl rfl rfl (by decide +kernel) ⟨Nat.le_of_ble_eq_true rfl, Nat.le_of_ble_eq_true rfl⟩) hK hP hD hS hA rfl rfl rfl rfl (by decide) rfl rfl rfl rfl hl.1 rfl (Nat.le_of_ble_eq_true rfl) dX2_scanLine_30 ⟨Nat.zero_le _, Nat.zero_le _⟩ (fun r u H locs hw hP hD hS => ?_)
      obtain - := u
      try dsimp only at hw hP hD
      obtain rfl := hw
      have hP : va_P (dC, dI) vwCl [(h, .inr (2, [.ref tp, .ref ip, .ref wd, .int (iI (ft)), .int (iI (ln))])), (ip, .inr (0, [.int (iI ((lim : Int))), .ref iq, .int (iI ((n : Int)))])), (iq, .inl (cB, il, .inl (f)))] H := hP.sub [2, 0, 1] rfl
      have hD : va_D A [(h, .inr (2, [.ref tp, .ref ip, .ref wd, .int (iI (ft)), .int (iI (ln))])), (ip, .inr (0, [.int (iI ((lim : Int))), .ref iq, .int (iI ((n : Int)))])), (iq, .inl (cB, il, .inl (f)))] := hD.sub [2, 0, 1] (by decide) rfl
      refine lv_goto (tgt := 37) hx hb dX2_scanLine_33 (by decide) ?_
      have hL : (zLine (bA f n) n fr least most) = (-2, 0) := by rw [zLine_1 (by omega), if_pos (by omega)]
      exact W.iret (v := iI (-2)) hx hb hr (fun t ht hW => ⟨⟨iI (-2), (ft, ln), rfl, ⟨by rw [hL], fun q => by rw [hL] at q; exact absurd q (by decide), hln, by rw [hL]; exact (if_pos rfl).symm⟩, by rw [ht]; exact hP, va_K.moved hW.alike hK, hD⟩, hS.F ht⟩) hS.2.2 dX2_scanLine_37
set_option maxHeartbeats 4000000 in
set_option maxRecDepth 100000 in
/-- scanWordEnd(from) -/
theorem c_X2_scanWordEnd (l : Launch) (dC : Nat → ClassId) (dI : Nat → Nat → Nat) (cB cI : ClassId) (sz : Nat) (h tp ip wd iq lim il n : Nat) (f : Nat → Int32) (lf ln : Int) (hc : n ≤ il) (hn : il ≤ 65536) (fr : Int) (hfr : 0 ≤ fr ∧ fr ≤ 200000) : Met l yX2_scanWordEnd wX2_scanWordEnd ({ frames := 1, cells := 0, slots := 0, locals := 21 }) (va_Pc [.ref h, .int (iI (fr))] (vx_B (dC, dI) vwCl [(cB, .byte), (cI, .int)] [(h, .inr (2, [.ref tp, .ref ip, .ref wd, .int (iI (lf)), .int (iI (ln))])), (ip, .inr (0, [.int (iI ((lim : Int))), .ref iq, .int (iI ((n : Int)))])), (iq, .inl (cB, il, .inl (f)))] sz)) (va_Qi (fun (r : Int32) (u : Int) => r = iI (zEnd (bA f n) fr) ∧ u = (if zEnd (bA f n) fr = -2 then 4 else lf)) (fun (u : Int) => vx_E (dC, dI) vwCl [(cB, .byte), (cI, .int)] (va_A [(h, .inr (2, [.ref tp, .ref ip, .ref wd, .int (iI (lf)), .int (iI (ln))])), (ip, .inr (0, [.int (iI ((lim : Int))), .ref iq, .int (iI ((n : Int)))])), (iq, .inl (cB, il, .inl (f)))] sz) [(h, .inr (2, [.ref tp, .ref ip, .ref wd, .int (iI (u)), .int (iI (ln))])), (ip, .inr (0, [.int (iI ((lim : Int))), .ref iq, .int (iI ((n : Int)))])), (iq, .inl (cB, il, .inl (f)))]) (va_A [(h, .inr (2, [.ref tp, .ref ip, .ref wd, .int (iI (lf)), .int (iI (ln))])), (ip, .inr (0, [.int (iI ((lim : Int))), .ref iq, .int (iI ((n : Int)))])), (iq, .inl (cB, il, .inl (f)))] sz)) (0) (0) (va_A [(h, .inr (2, [.ref tp, .ref ip, .ref wd, .int (iI (lf)), .int (iI (ln))])), (ip, .inr (0, [.int (iI ((lim : Int))), .ref iq, .int (iI ((n : Int)))])), (iq, .inl (cB, il, .inl (f)))] sz) := by
  refine Met.ofW (cc := cX2_scanWordEnd) (maxL := 4) (ret := (some .int)) (by decide) rfl ?_
  intro p e s m args below meth c s₁ B hml hv
  obtain ⟨rfl, hsz, hP, hK, hD0⟩ := hv
  have hx := B.exec
  have hb := B.bytes
  have hr := B.returns
  have hts := atoms_spec (ws := wX2_scanWordEnd) B.pre
  have hown : s.vm.findClass "RequestCutter" = some m.cls := findClass_of_methodNamed B.named
  have hlocks := B.notSynchronized
  subst hsz
  have hD := hD0.self (sz := s.heap.size)
  generalize hAe : va_A [(h, .inr (2, [.ref tp, .ref ip, .ref wd, .int (iI (lf)), .int (iI (ln))])), (ip, .inr (0, [.int (iI ((lim : Int))), .ref iq, .int (iI ((n : Int)))])), (iq, .inl (cB, il, .inl (f)))] s.heap.size = A at hD ⊢
  have hA : ∀ q : Nat, s.heap.size ≤ q → A q := fun q h => by rw [← hAe]; exact Or.inr h
  have hS : va_S A s.heap s.heap [] := va_S.rf
  have hP : va_P (dC, dI) vwCl [(h, .inr (2, [.ref tp, .ref ip, .ref wd, .int (iI (lf)), .int (iI (ln))])), (ip, .inr (0, [.int (iI ((lim : Int))), .ref iq, .int (iI ((n : Int)))])), (iq, .inl (cB, il, .inl (f)))] s.heap := hP
  have hl := lv_entry ([.ref h, .int (iI (fr))]) (n := 4) (Nat.le_of_ble_eq_true rfl)
  rw [lg_entry_eq]
  generalize (lg_sl ([.ref h, .int (iI (fr))]) ++ List.replicate (4 - (lg_sl ([.ref h, .int (iI (fr))])).length) Slot.unset).toArray = ls at hl ⊢
  have hl : lv_has ls 4 [(0, .ref h), (1, .int (iI (fr)))] := hl
  refine lv_aload_n hx hb dX2_scanWordEnd_0 rfl (lv_at hl 0 rfl) ?_
  refine va_get (D := (dC, dI)) (ci := 2) (v := .ref ip) (C := "RequestCutter") (T := TX2) (N := 5) hx hb hts (fun w h => List.mem_cons_of_mem _ (inX2 w h)) hown hK hP 0 rfl rfl 1 (by decide) (hts _ (List.mem_cons_of_mem _ tw_76)) (fun _ h9 => h9) rfl dX2_scanWordEnd_1 ?_
  refine lv_iload_n hx hb dX2_scanWordEnd_4 rfl (lv_at hl 1 rfl) ?_
  have g_at := bA_rg f n (fr)
  refine vx_Vs (As := [.int (iI (fr))]) (rest := []) (ci := 0) (q0 := 0) [1, 2] ⟨hx, hb, hml, hown, hts⟩ (c_X0_at l dC dI cB cI ip iq lim il n f hc hn (fr) (by omega)) (cwV 1 hts (gd_V tw_158 tw_159 tw_160 tw_20 tw_161) rfl rfl rfl (by decide +kernel) ⟨Nat.le_of_ble_eq_true rfl, Nat.le_of_ble_eq_true rfl⟩) hK hP rfl rfl rfl rfl rfl hl.1 rfl (Nat.le_of_ble_eq_true rfl) dX2_scanWordEnd_5 ⟨Nat.zero_le _, Nat.zero_le _⟩ (fun r hr => ?_)
  obtain rfl : r = iI (bA f n (fr)) := hr
  have g0 := bA_rg f n fr
  refine lv_istore_n (lv' := [(2, .int (iI (bA f n (fr)))), (0, .ref h), (1, .int (iI (fr)))]) hx hb dX2_scanWordEnd_8 rfl hl (by decide) rfl (fun ls hl => ?_)
  refine lv_aload_n hx hb dX2_scanWordEnd_9 rfl (lv_at hl 1 rfl) ?_
  refine va_get (D := (dC, dI)) (ci := 2) (v := .ref ip) (C := "RequestCutter") (T := TX2) (N := 5) hx hb hts (fun w h => List.mem_cons_of_mem _ (inX2 w h)) hown hK hP 0 rfl rfl 1 (by decide) (hts _ (List.mem_cons_of_mem _ tw_76)) (fun _ h9 => h9) rfl dX2_scanWordEnd_10 ?_
  refine lv_iload_n hx hb dX2_scanWordEnd_13 rfl (lv_at hl 2 rfl) ?_
  refine lv_iconst (v := iI (1)) hx hb dX2_scanWordEnd_14 rfl ?_
  refine lx_iadd (a := fr) (b := 1) hx hb dX2_scanWordEnd_15 ?_
  have g_at := bA_rg f n (fr + 1)
  refine vx_Vs (As := [.int (iI (fr + 1))]) (rest := []) (ci := 0) (q0 := 0) [1, 2] ⟨hx, hb, hml, hown, hts⟩ (c_X0_at l dC dI cB cI ip iq lim il n f hc hn (fr + 1) (by omega)) (cwV 1 hts (gd_V tw_158 tw_159 tw_160 tw_20 tw_161) rfl rfl rfl (by decide +kernel) ⟨Nat.le_of_ble_eq_true rfl, Nat.le_of_ble_eq_true rfl⟩) hK hP rfl rfl rfl rfl rfl hl.1 rfl (Nat.le_of_ble_eq_true rfl) dX2_scanWordEnd_16 ⟨Nat.zero_le _, Nat.zero_le _⟩ (fun r hr => ?_)
  obtain rfl : r = iI (bA f n (fr + 1)) := hr
  refine lv_istore_n (lv' := [(3, .int (iI (bA f n (fr + 1)))), (2, .int (iI (bA f n (fr)))), (0, .ref h), (1, .int (iI (fr)))]) hx hb dX2_scanWordEnd_19 rfl hl (by decide) rfl (fun ls hl => ?_)
  refine lv_iload_n hx hb dX2_scanWordEnd_20 rfl (lv_at hl 1 rfl) ?_
  refine lv_iconst (v := iI (-1)) hx hb dX2_scanWordEnd_21 rfl ?_
  refine lx_icmp_ne (a := bA f n (fr)) (b := -1) (tgt := 27) hx hb dX2_scanWordEnd_22 (by decide) (by omega) (by omega) (fun cq1 => ?_) (fun cq1 => ?_)
  · refine lv_iload_n hx hb dX2_scanWordEnd_27 rfl (lv_at hl 1 rfl) ?_
    refine lv_bipush (v := iI (13)) hx hb dX2_scanWordEnd_28 (by decide) ?_
    refine lx_icmp_eq (a := bA f n (fr)) (b := 13) (tgt := 39) hx hb dX2_scanWordEnd_30 (by decide) (by omega) (by omega) (fun cq2 => ?_) (fun cq2 => ?_)
    · refine lv_iload_n hx hb dX2_scanWordEnd_39 rfl (lv_at hl 0 rfl) ?_
      refine lv_iconst (v := iI (-1)) hx hb dX2_scanWordEnd_40 rfl ?_
      refine lx_icmp_ne (a := bA f n (fr + 1)) (b := -1) (tgt := 46) hx hb dX2_scanWordEnd_41 (by decide) (by omega) (by omega) (fun cq3 => ?_) (fun cq3 => ?_)
      · refine lv_iload_n hx hb dX2_scanWordEnd_46 rfl (lv_at hl 0 rfl) ?_
        refine lv_bipush (v := iI (10)) hx hb dX2_scanWordEnd_47 (by decide) ?_
        refine lx_icmp_ne (a := bA f n (fr + 1)) (b := 10) (tgt := 58) hx hb dX2_scanWordEnd_49 (by decide) (by omega) (by omega) (fun cq4 => ?_) (fun cq4 => ?_)
        · refine lv_aload_n hx hb dX2_scanWordEnd_58 rfl (lv_at hl 2 rfl) ?_
          refine lv_iconst (v := iI (4)) hx hb dX2_scanWordEnd_59 rfl ?_
          refine vx_Vi (As := [.int (iI (4))]) (rest := []) (wr := [(ip, .inr (0, [.int (iI ((lim : Int))), .ref iq, .int (iI ((n : Int)))])), (iq, .inl (cB, il, .inl (f)))]) (ci := 2) (q0 := 0) [0] [1, 2] ⟨hx, hb, hml, hown, hts⟩ (c_X2_tell l dC dI cB cI _ h tp ip wd (lf) (ln) (4)) (cwV 1 hts (gd_V tw_175 tw_177 tw_3 tw_19 tw_178) rfl rfl rfl (by decide +kernel) ⟨Nat.le_of_ble_eq_true rfl, Nat.le_of_ble_eq_true rfl⟩) hK hP hD hS hA rfl rfl rfl rfl (by decide) rfl rfl rfl rfl hl.1 rfl (Nat.le_of_ble_eq_true rfl) dX2_scanWordEnd_60 ⟨Nat.zero_le _, Nat.zero_le _⟩ (fun r u H locs hw hP hD hS => ?_)
          obtain - := u
          try dsimp only at hw hP hD
          obtain rfl := hw
          have hP : va_P (dC, dI) vwCl [(h, .inr (2, [.ref tp, .ref ip, .ref wd, .int (iI (4)), .int (iI (ln))])), (ip, .inr (0, [.int (iI ((lim : Int))), .ref iq, .int (iI ((n : Int)))])), (iq, .inl (cB, il, .inl (f)))] H := hP.sub [2, 0, 1] rfl
          have hD : va_D A [(h, .inr (2, [.ref tp, .ref ip, .ref wd, .int (iI (4)), .int (iI (ln))])), (ip, .inr (0, [.int (iI ((lim : Int))), .ref iq, .int (iI ((n : Int)))])), (iq, .inl (cB, il, .inl (f)))] := hD.sub [2, 0, 1] (by decide) rfl
          have hE : zEnd (bA f n) fr = -2 := by unfold zEnd; repeat (first | rw [if_pos (by omega)] | rw [if_neg (by omega)])
          exact W.iret (v := iI (-2)) hx hb hr (fun t ht hW => ⟨⟨iI (-2), (4), rfl, ⟨by rw [hE], by rw [hE]; exact (if_pos rfl).symm⟩, by rw [ht]; exact hP, va_K.moved hW.alike hK, hD⟩, hS.F ht⟩) hS.2.2 dX2_scanWordEnd_63
        · refine lv_iload_n hx hb dX2_scanWordEnd_52 rfl (lv_at hl 3 rfl) ?_
          refine lv_iconst (v := iI (2)) hx hb dX2_scanWordEnd_53 rfl ?_
          refine lx_iadd (a := fr) (b := 2) hx hb dX2_scanWordEnd_54 ?_
          refine lv_goto (tgt := 63) hx hb dX2_scanWordEnd_55 (by decide) ?_
          have hE : zEnd (bA f n) fr = fr + 2 := by unfold zEnd; repeat (first | rw [if_pos (by omega)] | rw [if_neg (by omega)])
          exact W.iret (v := iI (fr + 2)) hx hb hr (fun t ht hW => ⟨⟨iI (fr + 2), (lf), rfl, ⟨by rw [hE], by rw [hE]; exact (if_neg (by omega)).symm⟩, by rw [ht]; exact hP, va_K.moved hW.alike hK, hD⟩, hS.F ht⟩) hS.2.2 dX2_scanWordEnd_63
      · refine lv_iconst (v := iI (-1)) hx hb dX2_scanWordEnd_44 rfl ?_
        have hE : zEnd (bA f n) fr = -1 := by unfold zEnd; repeat (first | rw [if_pos (by omega)] | rw [if_neg (by omega)])
        exact W.iret (v := iI (-1)) hx hb hr (fun t ht hW => ⟨⟨iI (-1), (lf), rfl, ⟨by rw [hE], by rw [hE]; exact (if_neg (by omega)).symm⟩, by rw [ht]; exact hP, va_K.moved hW.alike hK, hD⟩, hS.F ht⟩) hS.2.2 dX2_scanWordEnd_45
    · refine lv_aload_n hx hb dX2_scanWordEnd_33 rfl (lv_at hl 2 rfl) ?_
      refine lv_iconst (v := iI (4)) hx hb dX2_scanWordEnd_34 rfl ?_
      refine vx_Vi (As := [.int (iI (4))]) (rest := []) (wr := [(ip, .inr (0, [.int (iI ((lim : Int))), .ref iq, .int (iI ((n : Int)))])), (iq, .inl (cB, il, .inl (f)))]) (ci := 2) (q0 := 0) [0] [1, 2] ⟨hx, hb, hml, hown, hts⟩ (c_X2_tell l dC dI cB cI _ h tp ip wd (lf) (ln) (4)) (cwV 1 hts (gd_V tw_175 tw_177 tw_3 tw_19 tw_178) rfl rfl rfl (by decide +kernel) ⟨Nat.le_of_ble_eq_true rfl, Nat.le_of_ble_eq_true rfl⟩) hK hP hD hS hA rfl rfl rfl rfl (by decide) rfl rfl rfl rfl hl.1 rfl (Nat.le_of_ble_eq_true rfl) dX2_scanWordEnd_35 ⟨Nat.zero_le _, Nat.zero_le _⟩ (fun r u H locs hw hP hD hS => ?_)
      obtain - := u
      try dsimp only at hw hP hD
      obtain rfl := hw
      have hP : va_P (dC, dI) vwCl [(h, .inr (2, [.ref tp, .ref ip, .ref wd, .int (iI (4)), .int (iI (ln))])), (ip, .inr (0, [.int (iI ((lim : Int))), .ref iq, .int (iI ((n : Int)))])), (iq, .inl (cB, il, .inl (f)))] H := hP.sub [2, 0, 1] rfl
      have hD : va_D A [(h, .inr (2, [.ref tp, .ref ip, .ref wd, .int (iI (4)), .int (iI (ln))])), (ip, .inr (0, [.int (iI ((lim : Int))), .ref iq, .int (iI ((n : Int)))])), (iq, .inl (cB, il, .inl (f)))] := hD.sub [2, 0, 1] (by decide) rfl
      have hE : zEnd (bA f n) fr = -2 := by unfold zEnd; repeat (first | rw [if_pos (by omega)] | rw [if_neg (by omega)])
      exact W.iret (v := iI (-2)) hx hb hr (fun t ht hW => ⟨⟨iI (-2), (4), rfl, ⟨by rw [hE], by rw [hE]; exact (if_pos rfl).symm⟩, by rw [ht]; exact hP, va_K.moved hW.alike hK, hD⟩, hS.F ht⟩) hS.2.2 dX2_scanWordEnd_38
  · refine lv_iconst (v := iI (-1)) hx hb dX2_scanWordEnd_25 rfl ?_
    have hE : zEnd (bA f n) fr = -1 := by unfold zEnd; repeat (first | rw [if_pos (by omega)] | rw [if_neg (by omega)])
    exact W.iret (v := iI (-1)) hx hb hr (fun t ht hW => ⟨⟨iI (-1), (lf), rfl, ⟨by rw [hE], by rw [hE]; exact (if_neg (by omega)).symm⟩, by rw [ht]; exact hP, va_K.moved hW.alike hK, hD⟩, hS.F ht⟩) hS.2.2 dX2_scanWordEnd_26
