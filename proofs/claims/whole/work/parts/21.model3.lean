set_option maxHeartbeats 4000000 in
set_option maxRecDepth 100000 in
/-- line() -/
theorem c_X3_line (l : Launch) (dC : Nat → ClassId) (dI : Nat → Nat → Nat) (cB cI : ClassId) (sz : Nat) (m0 mt mi mk mf ml tc n w ks : Nat) (ft pa : Int) (f : Nat → Int32) (hn : n ≤ 65536) (hfit : sb_Fit f) (hpa : 0 ≤ pa ∧ pa < n) : Met l yX3_line wX3_line ({ frames := 0, cells := 0, slots := 0, locals := 0 }) (va_Pc [.ref m0] (vx_B (dC, dI) vwCl [(cB, .byte), (cI, .int)] [(m0, .inr (3, [.ref mt, .ref mi, .ref mk, .ref mf, .ref ml, .int (iI ((tc : Int))), .int (iI ((n : Int))), .int (iI ((w : Int))), .int (iI ((ks : Int))), .int (iI (ft)), .int (iI (pa))])), (mi, .inl (cB, 65536, .inl (f)))] sz)) (va_Qi (fun (r : Int32) (u : Int) => r = iI (mL (bA f n) n pa).1 ∧ u = (mL (bA f n) n pa).2) (fun (u : Int) => vx_E (dC, dI) vwCl [(cB, .byte), (cI, .int)] (va_A [(m0, .inr (3, [.ref mt, .ref mi, .ref mk, .ref mf, .ref ml, .int (iI ((tc : Int))), .int (iI ((n : Int))), .int (iI ((w : Int))), .int (iI ((ks : Int))), .int (iI (ft)), .int (iI (pa))])), (mi, .inl (cB, 65536, .inl (f)))] sz) [(m0, .inr (3, [.ref mt, .ref mi, .ref mk, .ref mf, .ref ml, .int (iI ((tc : Int))), .int (iI ((n : Int))), .int (iI ((w : Int))), .int (iI ((ks : Int))), .int (iI (ft)), .int (iI (u))])), (mi, .inl (cB, 65536, .inl (f)))]) (va_A [(m0, .inr (3, [.ref mt, .ref mi, .ref mk, .ref mf, .ref ml, .int (iI ((tc : Int))), .int (iI ((n : Int))), .int (iI ((w : Int))), .int (iI ((ks : Int))), .int (iI (ft)), .int (iI (pa))])), (mi, .inl (cB, 65536, .inl (f)))] sz)) (0) (0) (va_A [(m0, .inr (3, [.ref mt, .ref mi, .ref mk, .ref mf, .ref ml, .int (iI ((tc : Int))), .int (iI ((n : Int))), .int (iI ((w : Int))), .int (iI ((ks : Int))), .int (iI (ft)), .int (iI (pa))])), (mi, .inl (cB, 65536, .inl (f)))] sz) := by
  refine Met.ofW (cc := cX3_line) (maxL := 8) (ret := (some .int)) (by decide) rfl ?_
  intro p e s m args below meth c s₁ B hml hv
  obtain ⟨rfl, hsz, hP, hK, hD0⟩ := hv
  have hx := B.exec
  have hb := B.bytes
  have hr := B.returns
  have hts := atoms_spec (ws := wX3_line) B.pre
  have hown : s.vm.findClass "RequestCutterModel" = some m.cls := findClass_of_methodNamed B.named
  have hlocks := B.notSynchronized
  subst hsz
  have hD := hD0.self (sz := s.heap.size)
  generalize hAe : va_A [(m0, .inr (3, [.ref mt, .ref mi, .ref mk, .ref mf, .ref ml, .int (iI ((tc : Int))), .int (iI ((n : Int))), .int (iI ((w : Int))), .int (iI ((ks : Int))), .int (iI (ft)), .int (iI (pa))])), (mi, .inl (cB, 65536, .inl (f)))] s.heap.size = A at hD ⊢
  have hA : ∀ q : Nat, s.heap.size ≤ q → A q := fun q h => by rw [← hAe]; exact Or.inr h
  have hS : va_S A s.heap s.heap [] := va_S.rf
  have hP : va_P (dC, dI) vwCl [(m0, .inr (3, [.ref mt, .ref mi, .ref mk, .ref mf, .ref ml, .int (iI ((tc : Int))), .int (iI ((n : Int))), .int (iI ((w : Int))), .int (iI ((ks : Int))), .int (iI (ft)), .int (iI (pa))])), (mi, .inl (cB, 65536, .inl (f)))] s.heap := hP
  have hl := lv_entry ([.ref m0]) (n := 8) (Nat.le_of_ble_eq_true rfl)
  rw [lg_entry_eq]
  generalize (lg_sl ([.ref m0]) ++ List.replicate (8 - (lg_sl ([.ref m0])).length) Slot.unset).toArray = ls at hl ⊢
  have hl : lv_has ls 8 [(0, .ref m0)] := hl
  refine lv_aload_n hx hb dX3_line_0 rfl (lv_at hl 0 rfl) ?_
  refine va_get (D := (dC, dI)) (ci := 3) (v := .int (iI (pa))) (C := "RequestCutterModel") (T := TX3) (N := 11) hx hb hts (fun w h => List.mem_cons_of_mem _ (inX3 w h)) hown hK hP 0 rfl rfl 10 (by decide) (hts _ (List.mem_cons_of_mem _ tw_276)) (fun _ h9 => h9) rfl dX3_line_1 ?_
  refine lv_iconst (v := iI (1)) hx hb dX3_line_4 rfl ?_
  refine lx_iadd (a := pa) (b := 1) hx hb dX3_line_5 ?_
  refine lv_istore_n (lv' := [(1, .int (iI (pa + 1))), (0, .ref m0)]) hx hb dX3_line_6 rfl hl (by decide) rfl (fun ls hl => ?_)
  refine (?_ : ∀ (k : Nat) (i : Int) (ls : Array Slot), i + k = pa + 15 → pa + 1 ≤ i → zStopGo (bA f n) k i = zStop (bA f n) pa → lv_has ls 8 [(1, .int (iI (i))), (0, .ref m0)] → W p l e _ s m _ below meth c _ _ _ _ _ (F0 m 7 ls [])) (14) (pa + 1) ls (by omega) (by omega) (rfl) (lv_sub hl [0, 1] rfl)
  intro k
  induction k with
  | zero =>
    intro i ls hk hi0 hz hl
    refine lv_iload_n hx hb dX3_line_7 rfl (lv_at hl 0 rfl) ?_
    refine lv_iconst (v := iI (1)) hx hb dX3_line_8 rfl ?_
    refine lx_iadd (a := i) (b := 1) hx hb dX3_line_9 ?_
    refine lv_aload_n hx hb dX3_line_10 rfl (lv_at hl 1 rfl) ?_
    refine va_get (D := (dC, dI)) (ci := 3) (v := .int (iI ((n : Int)))) (C := "RequestCutterModel") (T := TX3) (N := 11) hx hb hts (fun w h => List.mem_cons_of_mem _ (inX3 w h)) hown hK hP 0 rfl rfl 6 (by decide) (hts _ (List.mem_cons_of_mem _ tw_272)) (fun _ h9 => h9) rfl dX3_line_11 ?_
    refine lx_icmp_ge (a := i + 1) (b := (n : Int)) (tgt := 60) hx hb dX3_line_14 (by decide) (by omega) (by omega) (fun cq1 => ?_) (fun cq1 => ?_)
    · have hStp : zStop (bA f n) pa = -1 := by rw [← hz]; exact zStopGo_out f n _ _ (by omega)
      refine lv_iload_n hx hb dX3_line_60 rfl (lv_at hl 0 rfl) ?_
      refine lv_iconst (v := iI (1)) hx hb dX3_line_61 rfl ?_
      refine lx_iadd (a := i) (b := 1) hx hb dX3_line_62 ?_
      refine lv_aload_n hx hb dX3_line_63 rfl (lv_at hl 1 rfl) ?_
      refine va_get (D := (dC, dI)) (ci := 3) (v := .int (iI ((n : Int)))) (C := "RequestCutterModel") (T := TX3) (N := 11) hx hb hts (fun w h => List.mem_cons_of_mem _ (inX3 w h)) hown hK hP 0 rfl rfl 6 (by decide) (hts _ (List.mem_cons_of_mem _ tw_272)) (fun _ h9 => h9) rfl dX3_line_64 ?_
      refine lx_icmp_ge (a := i + 1) (b := (n : Int)) (tgt := 87) hx hb dX3_line_67 (by decide) (by omega) (by omega) (fun cq2 => ?_) (fun cq2 => ?_)
      · refine lv_iconst (v := iI (0)) hx hb dX3_line_87 rfl ?_
        refine lv_istore_n (lv' := [(2, .int (iI (0))), (1, .int (iI (i))), (0, .ref m0)]) hx hb dX3_line_88 rfl hl (by decide) rfl (fun ls hl => ?_)
        refine lv_iload_n hx hb dX3_line_89 rfl (lv_at hl 0 rfl) ?_
        refine lx_if_ne (a := 0) (tgt := 115) hx hb dX3_line_90 (by decide) (by omega) (fun cq3 => ?_) (fun cq3 => ?_)
        · exact absurd cq3 (by omega)
        · refine lv_aload_n hx hb dX3_line_93 rfl (lv_at hl 2 rfl) ?_
          refine va_get (D := (dC, dI)) (ci := 3) (v := .int (iI ((n : Int)))) (C := "RequestCutterModel") (T := TX3) (N := 11) hx hb hts (fun w h => List.mem_cons_of_mem _ (inX3 w h)) hown hK hP 0 rfl rfl 6 (by decide) (hts _ (List.mem_cons_of_mem _ tw_272)) (fun _ h9 => h9) rfl dX3_line_94 ?_
          refine lv_aload_n hx hb dX3_line_97 rfl (lv_at hl 2 rfl) ?_
          refine va_get (D := (dC, dI)) (ci := 3) (v := .int (iI (pa))) (C := "RequestCutterModel") (T := TX3) (N := 11) hx hb hts (fun w h => List.mem_cons_of_mem _ (inX3 w h)) hown hK hP 0 rfl rfl 10 (by decide) (hts _ (List.mem_cons_of_mem _ tw_276)) (fun _ h9 => h9) rfl dX3_line_98 ?_
          refine lx_isub (a := (n : Int)) (b := pa) hx hb dX3_line_101 ?_
          refine lv_bipush (v := iI (16)) hx hb dX3_line_102 (by decide) ?_
          refine lx_icmp_lt (a := ((n : Int)) - pa) (b := 16) (tgt := 112) hx hb dX3_line_104 (by decide) (by omega) (by omega) (fun cq4 => ?_) (fun cq4 => ?_)
          · refine lx_ldc (z := -1000000) (v := -1000000) hx hb hown (hts _ (List.mem_cons_of_mem _ tw_337)) (by decide) dX3_line_112 ?_
            exact W.iret (v := iI (-1000000)) hx hb hr (fun t ht hW => ⟨⟨iI (-1000000), pa, rfl, ⟨by rw [mL_1 hStp, if_neg (by omega)], by rw [mL_1 hStp]⟩, by rw [ht]; exact hP, va_K.moved hW.alike hK, hD⟩, hS.F ht⟩) hS.2.2 dX3_line_114
          · refine lx_ldc (z := -1000001) (v := -1000001) hx hb hown (hts _ (List.mem_cons_of_mem _ tw_336)) (by decide) dX3_line_107 ?_
            refine lv_goto (tgt := 114) hx hb dX3_line_109 (by decide) ?_
            exact W.iret (v := iI (-1000001)) hx hb hr (fun t ht hW => ⟨⟨iI (-1000001), pa, rfl, ⟨by rw [mL_1 hStp, if_pos (by omega)], by rw [mL_1 hStp]⟩, by rw [ht]; exact hP, va_K.moved hW.alike hK, hD⟩, hS.F ht⟩) hS.2.2 dX3_line_114
      · exact absurd cq2 (by omega)
    · refine lv_iload_n hx hb dX3_line_17 rfl (lv_at hl 0 rfl) ?_
      refine lv_iconst (v := iI (1)) hx hb dX3_line_18 rfl ?_
      refine lx_iadd (a := i) (b := 1) hx hb dX3_line_19 ?_
      refine lv_aload_n hx hb dX3_line_20 rfl (lv_at hl 1 rfl) ?_
      refine va_get (D := (dC, dI)) (ci := 3) (v := .int (iI (pa))) (C := "RequestCutterModel") (T := TX3) (N := 11) hx hb hts (fun w h => List.mem_cons_of_mem _ (inX3 w h)) hown hK hP 0 rfl rfl 10 (by decide) (hts _ (List.mem_cons_of_mem _ tw_276)) (fun _ h9 => h9) rfl dX3_line_21 ?_
      refine lv_bipush (v := iI (16)) hx hb dX3_line_24 (by decide) ?_
      refine lx_iadd (a := pa) (b := 16) hx hb dX3_line_26 ?_
      refine lx_icmp_ge (a := i + 1) (b := pa + 16) (tgt := 60) hx hb dX3_line_27 (by decide) (by omega) (by omega) (fun cq5 => ?_) (fun cq5 => ?_)
      · have hStp : zStop (bA f n) pa = -1 := by rw [← hz]; rfl
        refine lv_iload_n hx hb dX3_line_60 rfl (lv_at hl 0 rfl) ?_
        refine lv_iconst (v := iI (1)) hx hb dX3_line_61 rfl ?_
        refine lx_iadd (a := i) (b := 1) hx hb dX3_line_62 ?_
        refine lv_aload_n hx hb dX3_line_63 rfl (lv_at hl 1 rfl) ?_
        refine va_get (D := (dC, dI)) (ci := 3) (v := .int (iI ((n : Int)))) (C := "RequestCutterModel") (T := TX3) (N := 11) hx hb hts (fun w h => List.mem_cons_of_mem _ (inX3 w h)) hown hK hP 0 rfl rfl 6 (by decide) (hts _ (List.mem_cons_of_mem _ tw_272)) (fun _ h9 => h9) rfl dX3_line_64 ?_
        refine lx_icmp_ge (a := i + 1) (b := (n : Int)) (tgt := 87) hx hb dX3_line_67 (by decide) (by omega) (by omega) (fun cq6 => ?_) (fun cq6 => ?_)
        · exact absurd cq6 (by omega)
        · refine lv_iload_n hx hb dX3_line_70 rfl (lv_at hl 0 rfl) ?_
          refine lv_iconst (v := iI (1)) hx hb dX3_line_71 rfl ?_
          refine lx_iadd (a := i) (b := 1) hx hb dX3_line_72 ?_
          refine lv_aload_n hx hb dX3_line_73 rfl (lv_at hl 1 rfl) ?_
          refine va_get (D := (dC, dI)) (ci := 3) (v := .int (iI (pa))) (C := "RequestCutterModel") (T := TX3) (N := 11) hx hb hts (fun w h => List.mem_cons_of_mem _ (inX3 w h)) hown hK hP 0 rfl rfl 10 (by decide) (hts _ (List.mem_cons_of_mem _ tw_276)) (fun _ h9 => h9) rfl dX3_line_74 ?_
          refine lv_bipush (v := iI (16)) hx hb dX3_line_77 (by decide) ?_
          refine lx_iadd (a := pa) (b := 16) hx hb dX3_line_79 ?_
          refine lx_icmp_ge (a := i + 1) (b := pa + 16) (tgt := 87) hx hb dX3_line_80 (by decide) (by omega) (by omega) (fun cq7 => ?_) (fun cq7 => ?_)
          · refine lv_iconst (v := iI (0)) hx hb dX3_line_87 rfl ?_
            refine lv_istore_n (lv' := [(2, .int (iI (0))), (1, .int (iI (i))), (0, .ref m0)]) hx hb dX3_line_88 rfl hl (by decide) rfl (fun ls hl => ?_)
            refine lv_iload_n hx hb dX3_line_89 rfl (lv_at hl 0 rfl) ?_
            refine lx_if_ne (a := 0) (tgt := 115) hx hb dX3_line_90 (by decide) (by omega) (fun cq8 => ?_) (fun cq8 => ?_)
            · exact absurd cq8 (by omega)
            · refine lv_aload_n hx hb dX3_line_93 rfl (lv_at hl 2 rfl) ?_
              refine va_get (D := (dC, dI)) (ci := 3) (v := .int (iI ((n : Int)))) (C := "RequestCutterModel") (T := TX3) (N := 11) hx hb hts (fun w h => List.mem_cons_of_mem _ (inX3 w h)) hown hK hP 0 rfl rfl 6 (by decide) (hts _ (List.mem_cons_of_mem _ tw_272)) (fun _ h9 => h9) rfl dX3_line_94 ?_
              refine lv_aload_n hx hb dX3_line_97 rfl (lv_at hl 2 rfl) ?_
              refine va_get (D := (dC, dI)) (ci := 3) (v := .int (iI (pa))) (C := "RequestCutterModel") (T := TX3) (N := 11) hx hb hts (fun w h => List.mem_cons_of_mem _ (inX3 w h)) hown hK hP 0 rfl rfl 10 (by decide) (hts _ (List.mem_cons_of_mem _ tw_276)) (fun _ h9 => h9) rfl dX3_line_98 ?_
              refine lx_isub (a := (n : Int)) (b := pa) hx hb dX3_line_101 ?_
              refine lv_bipush (v := iI (16)) hx hb dX3_line_102 (by decide) ?_
              refine lx_icmp_lt (a := ((n : Int)) - pa) (b := 16) (tgt := 112) hx hb dX3_line_104 (by decide) (by omega) (by omega) (fun cq9 => ?_) (fun cq9 => ?_)
              · refine lx_ldc (z := -1000000) (v := -1000000) hx hb hown (hts _ (List.mem_cons_of_mem _ tw_337)) (by decide) dX3_line_112 ?_
                exact W.iret (v := iI (-1000000)) hx hb hr (fun t ht hW => ⟨⟨iI (-1000000), pa, rfl, ⟨by rw [mL_1 hStp, if_neg (by omega)], by rw [mL_1 hStp]⟩, by rw [ht]; exact hP, va_K.moved hW.alike hK, hD⟩, hS.F ht⟩) hS.2.2 dX3_line_114
              · refine lx_ldc (z := -1000001) (v := -1000001) hx hb hown (hts _ (List.mem_cons_of_mem _ tw_336)) (by decide) dX3_line_107 ?_
                refine lv_goto (tgt := 114) hx hb dX3_line_109 (by decide) ?_
                exact W.iret (v := iI (-1000001)) hx hb hr (fun t ht hW => ⟨⟨iI (-1000001), pa, rfl, ⟨by rw [mL_1 hStp, if_pos (by omega)], by rw [mL_1 hStp]⟩, by rw [ht]; exact hP, va_K.moved hW.alike hK, hD⟩, hS.F ht⟩) hS.2.2 dX3_line_114
          · exact absurd cq7 (by omega)
      · exact absurd cq5 (by omega)
  | succ k ih =>
    intro i ls hk hi0 hz hl
    refine lv_iload_n hx hb dX3_line_7 rfl (lv_at hl 0 rfl) ?_
    refine lv_iconst (v := iI (1)) hx hb dX3_line_8 rfl ?_
    refine lx_iadd (a := i) (b := 1) hx hb dX3_line_9 ?_
    refine lv_aload_n hx hb dX3_line_10 rfl (lv_at hl 1 rfl) ?_
    refine va_get (D := (dC, dI)) (ci := 3) (v := .int (iI ((n : Int)))) (C := "RequestCutterModel") (T := TX3) (N := 11) hx hb hts (fun w h => List.mem_cons_of_mem _ (inX3 w h)) hown hK hP 0 rfl rfl 6 (by decide) (hts _ (List.mem_cons_of_mem _ tw_272)) (fun _ h9 => h9) rfl dX3_line_11 ?_
    refine lx_icmp_ge (a := i + 1) (b := (n : Int)) (tgt := 60) hx hb dX3_line_14 (by decide) (by omega) (by omega) (fun cq10 => ?_) (fun cq10 => ?_)
    · have hStp : zStop (bA f n) pa = -1 := by rw [← hz]; exact zStopGo_out f n _ _ (by omega)
      refine lv_iload_n hx hb dX3_line_60 rfl (lv_at hl 0 rfl) ?_
      refine lv_iconst (v := iI (1)) hx hb dX3_line_61 rfl ?_
      refine lx_iadd (a := i) (b := 1) hx hb dX3_line_62 ?_
      refine lv_aload_n hx hb dX3_line_63 rfl (lv_at hl 1 rfl) ?_
      refine va_get (D := (dC, dI)) (ci := 3) (v := .int (iI ((n : Int)))) (C := "RequestCutterModel") (T := TX3) (N := 11) hx hb hts (fun w h => List.mem_cons_of_mem _ (inX3 w h)) hown hK hP 0 rfl rfl 6 (by decide) (hts _ (List.mem_cons_of_mem _ tw_272)) (fun _ h9 => h9) rfl dX3_line_64 ?_
      refine lx_icmp_ge (a := i + 1) (b := (n : Int)) (tgt := 87) hx hb dX3_line_67 (by decide) (by omega) (by omega) (fun cq11 => ?_) (fun cq11 => ?_)
      · refine lv_iconst (v := iI (0)) hx hb dX3_line_87 rfl ?_
        refine lv_istore_n (lv' := [(2, .int (iI (0))), (1, .int (iI (i))), (0, .ref m0)]) hx hb dX3_line_88 rfl hl (by decide) rfl (fun ls hl => ?_)
        refine lv_iload_n hx hb dX3_line_89 rfl (lv_at hl 0 rfl) ?_
        refine lx_if_ne (a := 0) (tgt := 115) hx hb dX3_line_90 (by decide) (by omega) (fun cq12 => ?_) (fun cq12 => ?_)
        · exact absurd cq12 (by omega)
        · refine lv_aload_n hx hb dX3_line_93 rfl (lv_at hl 2 rfl) ?_
          refine va_get (D := (dC, dI)) (ci := 3) (v := .int (iI ((n : Int)))) (C := "RequestCutterModel") (T := TX3) (N := 11) hx hb hts (fun w h => List.mem_cons_of_mem _ (inX3 w h)) hown hK hP 0 rfl rfl 6 (by decide) (hts _ (List.mem_cons_of_mem _ tw_272)) (fun _ h9 => h9) rfl dX3_line_94 ?_
          refine lv_aload_n hx hb dX3_line_97 rfl (lv_at hl 2 rfl) ?_
          refine va_get (D := (dC, dI)) (ci := 3) (v := .int (iI (pa))) (C := "RequestCutterModel") (T := TX3) (N := 11) hx hb hts (fun w h => List.mem_cons_of_mem _ (inX3 w h)) hown hK hP 0 rfl rfl 10 (by decide) (hts _ (List.mem_cons_of_mem _ tw_276)) (fun _ h9 => h9) rfl dX3_line_98 ?_
          refine lx_isub (a := (n : Int)) (b := pa) hx hb dX3_line_101 ?_
          refine lv_bipush (v := iI (16)) hx hb dX3_line_102 (by decide) ?_
          refine lx_icmp_lt (a := ((n : Int)) - pa) (b := 16) (tgt := 112) hx hb dX3_line_104 (by decide) (by omega) (by omega) (fun cq13 => ?_) (fun cq13 => ?_)
          · refine lx_ldc (z := -1000000) (v := -1000000) hx hb hown (hts _ (List.mem_cons_of_mem _ tw_337)) (by decide) dX3_line_112 ?_
            exact W.iret (v := iI (-1000000)) hx hb hr (fun t ht hW => ⟨⟨iI (-1000000), pa, rfl, ⟨by rw [mL_1 hStp, if_neg (by omega)], by rw [mL_1 hStp]⟩, by rw [ht]; exact hP, va_K.moved hW.alike hK, hD⟩, hS.F ht⟩) hS.2.2 dX3_line_114
          · refine lx_ldc (z := -1000001) (v := -1000001) hx hb hown (hts _ (List.mem_cons_of_mem _ tw_336)) (by decide) dX3_line_107 ?_
            refine lv_goto (tgt := 114) hx hb dX3_line_109 (by decide) ?_
            exact W.iret (v := iI (-1000001)) hx hb hr (fun t ht hW => ⟨⟨iI (-1000001), pa, rfl, ⟨by rw [mL_1 hStp, if_pos (by omega)], by rw [mL_1 hStp]⟩, by rw [ht]; exact hP, va_K.moved hW.alike hK, hD⟩, hS.F ht⟩) hS.2.2 dX3_line_114
      · exact absurd cq11 (by omega)
    · refine lv_iload_n hx hb dX3_line_17 rfl (lv_at hl 0 rfl) ?_
      refine lv_iconst (v := iI (1)) hx hb dX3_line_18 rfl ?_
      refine lx_iadd (a := i) (b := 1) hx hb dX3_line_19 ?_
      refine lv_aload_n hx hb dX3_line_20 rfl (lv_at hl 1 rfl) ?_
      refine va_get (D := (dC, dI)) (ci := 3) (v := .int (iI (pa))) (C := "RequestCutterModel") (T := TX3) (N := 11) hx hb hts (fun w h => List.mem_cons_of_mem _ (inX3 w h)) hown hK hP 0 rfl rfl 10 (by decide) (hts _ (List.mem_cons_of_mem _ tw_276)) (fun _ h9 => h9) rfl dX3_line_21 ?_
      refine lv_bipush (v := iI (16)) hx hb dX3_line_24 (by decide) ?_
      refine lx_iadd (a := pa) (b := 16) hx hb dX3_line_26 ?_
      refine lx_icmp_ge (a := i + 1) (b := pa + 16) (tgt := 60) hx hb dX3_line_27 (by decide) (by omega) (by omega) (fun cq14 => ?_) (fun cq14 => ?_)
      · exact absurd cq14 (by omega)
      · refine lv_aload_n hx hb dX3_line_30 rfl (lv_at hl 1 rfl) ?_
        refine va_get (D := (dC, dI)) (ci := 3) (v := .ref mi) (C := "RequestCutterModel") (T := TX3) (N := 11) hx hb hts (fun w h => List.mem_cons_of_mem _ (inX3 w h)) hown hK hP 0 rfl rfl 1 (by decide) (hts _ (List.mem_cons_of_mem _ tw_267)) (fun _ h9 => h9) rfl dX3_line_31 ?_
        refine lv_iload_n hx hb dX3_line_34 rfl (lv_at hl 0 rfl) ?_
        refine va_bald hx hb hK hP 1 0 rfl rfl (iI_in (by omega)) dX3_line_35 ?_
        refine lx_top (x2 := (f) ((i).toNat)) (congrArg (f) (iI_cl (a := i) (by omega))) ?_
        refine lx_top (x2 := iI (((f) ((i).toNat)).toInt)) (Int32.ofInt_toInt _).symm ?_
        have g_m := mA hfit n (i) (by omega)
        refine lv_bipush (v := iI (13)) hx hb dX3_line_36 (by decide) ?_
        refine lx_icmp_ne (a := ((f) ((i).toNat)).toInt) (b := 13) (tgt := 54) hx hb dX3_line_38 (by decide) (by omega) (by omega) (fun cq15 => ?_) (fun cq15 => ?_)
        · refine lv_iinc (v := iI (i + 1)) (lv' := [(1, .int (iI (i + 1))), (0, .ref m0)]) hx hb dX3_line_54 hl (k := 0) rfl (iI_add _ _) (by decide) rfl (fun ls hl => ?_)
          refine lv_goto (tgt := 7) hx hb dX3_line_57 (by decide) ?_
          exact ih (i + 1) ls (by omega) (by omega) (by rw [← hz]; exact (if_neg (by omega)).symm) (lv_sub hl [0, 1] rfl)
        · refine lv_aload_n hx hb dX3_line_41 rfl (lv_at hl 1 rfl) ?_
          refine va_get (D := (dC, dI)) (ci := 3) (v := .ref mi) (C := "RequestCutterModel") (T := TX3) (N := 11) hx hb hts (fun w h => List.mem_cons_of_mem _ (inX3 w h)) hown hK hP 0 rfl rfl 1 (by decide) (hts _ (List.mem_cons_of_mem _ tw_267)) (fun _ h9 => h9) rfl dX3_line_42 ?_
          refine lv_iload_n hx hb dX3_line_45 rfl (lv_at hl 0 rfl) ?_
          refine lv_iconst (v := iI (1)) hx hb dX3_line_46 rfl ?_
          refine lx_iadd (a := i) (b := 1) hx hb dX3_line_47 ?_
          refine va_bald hx hb hK hP 1 0 rfl rfl (iI_in (by omega)) dX3_line_48 ?_
          refine lx_top (x2 := (f) ((i + 1).toNat)) (congrArg (f) (iI_cl (a := i + 1) (by omega))) ?_
          refine lx_top (x2 := iI (((f) ((i + 1).toNat)).toInt)) (Int32.ofInt_toInt _).symm ?_
          have g_m := mA hfit n (i + 1) (by omega)
          refine lv_bipush (v := iI (10)) hx hb dX3_line_49 (by decide) ?_
          refine lx_icmp_eq (a := ((f) ((i + 1).toNat)).toInt) (b := 10) (tgt := 60) hx hb dX3_line_51 (by decide) (by omega) (by omega) (fun cq16 => ?_) (fun cq16 => ?_)
          · have hStp : zStop (bA f n) pa = i := by rw [← hz]; exact if_pos ⟨by omega, by omega⟩
            refine lv_iload_n hx hb dX3_line_60 rfl (lv_at hl 0 rfl) ?_
            refine lv_iconst (v := iI (1)) hx hb dX3_line_61 rfl ?_
            refine lx_iadd (a := i) (b := 1) hx hb dX3_line_62 ?_
            refine lv_aload_n hx hb dX3_line_63 rfl (lv_at hl 1 rfl) ?_
            refine va_get (D := (dC, dI)) (ci := 3) (v := .int (iI ((n : Int)))) (C := "RequestCutterModel") (T := TX3) (N := 11) hx hb hts (fun w h => List.mem_cons_of_mem _ (inX3 w h)) hown hK hP 0 rfl rfl 6 (by decide) (hts _ (List.mem_cons_of_mem _ tw_272)) (fun _ h9 => h9) rfl dX3_line_64 ?_
            refine lx_icmp_ge (a := i + 1) (b := (n : Int)) (tgt := 87) hx hb dX3_line_67 (by decide) (by omega) (by omega) (fun cq17 => ?_) (fun cq17 => ?_)
            · exact absurd cq17 (by omega)
            · refine lv_iload_n hx hb dX3_line_70 rfl (lv_at hl 0 rfl) ?_
              refine lv_iconst (v := iI (1)) hx hb dX3_line_71 rfl ?_
              refine lx_iadd (a := i) (b := 1) hx hb dX3_line_72 ?_
              refine lv_aload_n hx hb dX3_line_73 rfl (lv_at hl 1 rfl) ?_
              refine va_get (D := (dC, dI)) (ci := 3) (v := .int (iI (pa))) (C := "RequestCutterModel") (T := TX3) (N := 11) hx hb hts (fun w h => List.mem_cons_of_mem _ (inX3 w h)) hown hK hP 0 rfl rfl 10 (by decide) (hts _ (List.mem_cons_of_mem _ tw_276)) (fun _ h9 => h9) rfl dX3_line_74 ?_
              refine lv_bipush (v := iI (16)) hx hb dX3_line_77 (by decide) ?_
              refine lx_iadd (a := pa) (b := 16) hx hb dX3_line_79 ?_
              refine lx_icmp_ge (a := i + 1) (b := pa + 16) (tgt := 87) hx hb dX3_line_80 (by decide) (by omega) (by omega) (fun cq18 => ?_) (fun cq18 => ?_)
              · exact absurd cq18 (by omega)
              · refine lv_iconst (v := iI (1)) hx hb dX3_line_83 rfl ?_
                refine lv_goto (tgt := 88) hx hb dX3_line_84 (by decide) ?_
                refine lv_istore_n (lv' := [(2, .int (iI (1))), (1, .int (iI (i))), (0, .ref m0)]) hx hb dX3_line_88 rfl hl (by decide) rfl (fun ls hl => ?_)
                refine lv_iload_n hx hb dX3_line_89 rfl (lv_at hl 0 rfl) ?_
                refine lx_if_ne (a := 1) (tgt := 115) hx hb dX3_line_90 (by decide) (by omega) (fun cq19 => ?_) (fun cq19 => ?_)
                · refine lv_aload_n hx hb dX3_line_115 rfl (lv_at hl 2 rfl) ?_
                  refine va_get (D := (dC, dI)) (ci := 3) (v := .int (iI (pa))) (C := "RequestCutterModel") (T := TX3) (N := 11) hx hb hts (fun w h => List.mem_cons_of_mem _ (inX3 w h)) hown hK hP 0 rfl rfl 10 (by decide) (hts _ (List.mem_cons_of_mem _ tw_276)) (fun _ h9 => h9) rfl dX3_line_116 ?_
                  refine lv_iconst (v := iI (1)) hx hb dX3_line_119 rfl ?_
                  refine lx_iadd (a := pa) (b := 1) hx hb dX3_line_120 ?_
                  refine lv_istore_n (lv' := [(3, .int (iI (pa + 1))), (2, .int (iI (1))), (1, .int (iI (i))), (0, .ref m0)]) hx hb dX3_line_121 rfl hl (by decide) rfl (fun ls hl => ?_)
                  refine lv_aload_n hx hb dX3_line_122 rfl (lv_at hl 3 rfl) ?_
                  refine va_get (D := (dC, dI)) (ci := 3) (v := .ref mi) (C := "RequestCutterModel") (T := TX3) (N := 11) hx hb hts (fun w h => List.mem_cons_of_mem _ (inX3 w h)) hown hK hP 0 rfl rfl 1 (by decide) (hts _ (List.mem_cons_of_mem _ tw_267)) (fun _ h9 => h9) rfl dX3_line_123 ?_
                  refine lv_iload_n hx hb dX3_line_126 rfl (lv_at hl 0 rfl) ?_
                  refine va_bald hx hb hK hP 1 0 rfl rfl (iI_in (by omega)) dX3_line_127 ?_
                  refine lx_top (x2 := (f) ((pa + 1).toNat)) (congrArg (f) (iI_cl (a := pa + 1) (by omega))) ?_
                  refine lx_top (x2 := iI (((f) ((pa + 1).toNat)).toInt)) (Int32.ofInt_toInt _).symm ?_
                  have g_m := mA hfit n (pa + 1) (by omega)
                  refine lv_bipush (v := iI (45)) hx hb dX3_line_128 (by decide) ?_
                  refine lx_icmp_ne (a := ((f) ((pa + 1).toNat)).toInt) (b := 45) (tgt := 137) hx hb dX3_line_130 (by decide) (by omega) (by omega) (fun cq20 => ?_) (fun cq20 => ?_)
                  · refine lv_iconst (v := iI (0)) hx hb dX3_line_137 rfl ?_
                    refine lv_istore (lv' := [(4, .int (iI (0))), (3, .int (iI (pa + 1))), (2, .int (iI (1))), (1, .int (iI (i))), (0, .ref m0)]) hx hb dX3_line_138 hl (by decide) rfl (fun ls hl => ?_)
                    refine lv_iload hx hb dX3_line_140 (lv_at hl 0 rfl) ?_
                    refine lx_if_eq (a := 0) (tgt := 151) hx hb dX3_line_142 (by decide) (by omega) (fun cq21 => ?_) (fun cq21 => ?_)
                    · refine lv_iload_n hx hb dX3_line_151 rfl (lv_at hl 1 rfl) ?_
                      refine lv_istore_n (lv' := [(3, .int (iI (pa + 1))), (4, .int (iI (0))), (2, .int (iI (1))), (1, .int (iI (i))), (0, .ref m0)]) hx hb dX3_line_152 rfl hl (by decide) rfl (fun ls hl => ?_)
                      refine lv_iconst (v := iI (0)) hx hb dX3_line_153 rfl ?_
                      refine lv_istore (lv' := [(5, .int (iI (0))), (3, .int (iI (pa + 1))), (4, .int (iI (0))), (2, .int (iI (1))), (1, .int (iI (i))), (0, .ref m0)]) hx hb dX3_line_154 hl (by decide) rfl (fun ls hl => ?_)
                      refine lv_iload_n hx hb dX3_line_156 rfl (lv_at hl 4 rfl) ?_
                      refine lv_iload_n hx hb dX3_line_157 rfl (lv_at hl 1 rfl) ?_
                      refine lx_icmp_le (a := i) (b := pa + 1) (tgt := 173) hx hb dX3_line_158 (by decide) (by omega) (by omega) (fun cq22 => ?_) (fun cq22 => ?_)
                      · refine lv_iconst (v := iI (0)) hx hb dX3_line_173 rfl ?_
                        refine lv_istore (lv' := [(6, .int (iI (0))), (5, .int (iI (0))), (3, .int (iI (pa + 1))), (4, .int (iI (0))), (2, .int (iI (1))), (1, .int (iI (i))), (0, .ref m0)]) hx hb dX3_line_174 hl (by decide) rfl (fun ls hl => ?_)
                        refine lv_iload_n hx hb dX3_line_176 rfl (lv_at hl 2 rfl) ?_
                        refine lv_istore (lv' := [(7, .int (iI (pa + 1))), (6, .int (iI (0))), (5, .int (iI (0))), (3, .int (iI (pa + 1))), (4, .int (iI (0))), (2, .int (iI (1))), (1, .int (iI (i))), (0, .ref m0)]) hx hb dX3_line_177 hl (by decide) rfl (fun ls hl => ?_)
                        refine (?_ : ∀ (k2 : Nat) (j : Int) (v : Int) (g : Int) (ls : Array Slot), (i - j ≤ k2 ∧ (0 < k2 → j + k2 = i)) → (pa + 1 ≤ j ∧ j ≤ pa + 20) → ((g = 1 ∧ zNum (bA f n) (pa + 1) i = (zDig (bA f n) k2 j v).map (fun x => x)) ∨ (g = 0 ∧ zNum (bA f n) (pa + 1) i = none)) → lv_has ls 8 [(7, .int (iI (j))), (5, .int (iI (v))), (6, .int (iI (g))), (3, .int (iI (pa + 1))), (4, .int (iI (0))), (2, .int (iI (1))), (1, .int (iI (i))), (0, .ref m0)] → W p l e _ s m _ below meth c _ _ _ _ _ (F0 m 179 ls [])) ((i - (pa + 1)).toNat) (pa + 1) (0) (0) ls (by omega) (by omega) (Or.inr ⟨rfl, zNum_0 (by rw [if_neg (by omega)]; omega)⟩) (lv_sub hl [0, 2, 1, 3, 4, 5, 6, 7] rfl)
                        intro k2
                        induction k2 with
                        | zero =>
                          intro j v g ls hk2 hj hg hl
                          refine lv_iload hx hb dX3_line_179 (lv_at hl 0 rfl) ?_
                          refine lv_iload_n hx hb dX3_line_181 rfl (lv_at hl 6 rfl) ?_
                          refine lx_icmp_ge (a := j) (b := i) (tgt := 254) hx hb dX3_line_182 (by decide) (by omega) (by omega) (fun cq23 => ?_) (fun cq23 => ?_)
                          · refine lv_aload_n hx hb dX3_line_254 rfl (lv_at hl 7 rfl) ?_
                            refine lv_iload_n hx hb dX3_line_255 rfl (lv_at hl 6 rfl) ?_
                            refine lv_iconst (v := iI (2)) hx hb dX3_line_256 rfl ?_
                            refine lx_iadd (a := i) (b := 2) hx hb dX3_line_257 ?_
                            refine va_put (D := (dC, dI)) (ci := 3) (v := .int (iI (i + 2))) (ty := .int) (C := "RequestCutterModel") (T := TX3) (N := 11) hx hb hts (fun w h => List.mem_cons_of_mem _ (inX3 w h)) tyX3 tyX3_ok nmX3 hown hK hP hD hS 0 rfl rfl 10 (by decide) (hts _ (List.mem_cons_of_mem _ tw_276)) (fun _ h9 => h9) rfl (by decide +kernel) rfl rfl (Nat.le_of_ble_eq_true rfl) dX3_line_258 (fun H locs hP hD hS => ?_)
                            have hP : va_P (dC, dI) vwCl [(m0, .inr (3, [.ref mt, .ref mi, .ref mk, .ref mf, .ref ml, .int (iI ((tc : Int))), .int (iI ((n : Int))), .int (iI ((w : Int))), .int (iI ((ks : Int))), .int (iI (ft)), .int (iI (i + 2))])), (mi, .inl (cB, 65536, .inl (f)))] H := hP
                            have hD : va_D A [(m0, .inr (3, [.ref mt, .ref mi, .ref mk, .ref mf, .ref ml, .int (iI ((tc : Int))), .int (iI ((n : Int))), .int (iI ((w : Int))), .int (iI ((ks : Int))), .int (iI (ft)), .int (iI (i + 2))])), (mi, .inl (cB, 65536, .inl (f)))] := hD
                            refine lv_iload hx hb dX3_line_261 (lv_at hl 2 rfl) ?_
                            refine lx_if_ne (a := g) (tgt := 271) hx hb dX3_line_263 (by decide) (by omega) (fun cq24 => ?_) (fun cq24 => ?_)
                            · refine lv_iload hx hb dX3_line_271 (lv_at hl 4 rfl) ?_
                              refine lx_if_eq (a := 0) (tgt := 282) hx hb dX3_line_273 (by decide) (by omega) (fun cq25 => ?_) (fun cq25 => ?_)
                              · refine lv_iload hx hb dX3_line_282 (lv_at hl 1 rfl) ?_
                                have hN : (zNum (bA f n) (pa + 1) i).getD (-1000001) = v := by (rcases hg with ⟨e0, e⟩ | ⟨e0, e⟩); rw [e]; rfl; omega
                                exact W.iret (v := iI (v)) hx hb hr (fun t ht hW => ⟨⟨iI (v), (i + 2), rfl, ⟨by rw [mL_2 hStp (by omega), hN], by rw [mL_2 hStp (by omega)]⟩, by rw [ht]; exact hP, va_K.moved hW.alike hK, hD⟩, hS.F ht⟩) hS.2.2 dX3_line_284
                              · exact absurd cq25 (by omega)
                            · refine lx_ldc (z := -1000001) (v := -1000001) hx hb hown (hts _ (List.mem_cons_of_mem _ tw_336)) (by decide) dX3_line_266 ?_
                              refine lv_goto (tgt := 284) hx hb dX3_line_268 (by decide) ?_
                              have hN : (zNum (bA f n) (pa + 1) i).getD (-1000001) = -1000001 := by (rcases hg with ⟨e0, e⟩ | ⟨e0, e⟩); omega; rw [e]; rfl
                              exact W.iret (v := iI (-1000001)) hx hb hr (fun t ht hW => ⟨⟨iI (-1000001), (i + 2), rfl, ⟨by rw [mL_2 hStp (by omega), hN], by rw [mL_2 hStp (by omega)]⟩, by rw [ht]; exact hP, va_K.moved hW.alike hK, hD⟩, hS.F ht⟩) hS.2.2 dX3_line_284
                          · exact absurd cq23 (by omega)
                        | succ k2 ih2 =>
                          intro j v g ls hk2 hj hg hl
                          refine lv_iload hx hb dX3_line_179 (lv_at hl 0 rfl) ?_
                          refine lv_iload_n hx hb dX3_line_181 rfl (lv_at hl 6 rfl) ?_
                          refine lx_icmp_ge (a := j) (b := i) (tgt := 254) hx hb dX3_line_182 (by decide) (by omega) (by omega) (fun cq26 => ?_) (fun cq26 => ?_)
                          · exact absurd cq26 (by omega)
                          · refine lv_iload hx hb dX3_line_185 (lv_at hl 2 rfl) ?_
                            refine lx_if_eq (a := g) (tgt := 218) hx hb dX3_line_187 (by decide) (by omega) (fun cq27 => ?_) (fun cq27 => ?_)
                            · refine lv_iconst (v := iI (0)) hx hb dX3_line_218 rfl ?_
                              refine lv_istore (lv' := [(6, .int (iI (0))), (7, .int (iI (j))), (5, .int (iI (v))), (3, .int (iI (pa + 1))), (4, .int (iI (0))), (2, .int (iI (1))), (1, .int (iI (i))), (0, .ref m0)]) hx hb dX3_line_219 hl (by decide) rfl (fun ls hl => ?_)
                              refine lv_iload hx hb dX3_line_221 (lv_at hl 0 rfl) ?_
                              refine lx_if_eq (a := 0) (tgt := 245) hx hb dX3_line_223 (by decide) (by omega) (fun cq28 => ?_) (fun cq28 => ?_)
                              · refine lv_iconst (v := iI (0)) hx hb dX3_line_245 rfl ?_
                                refine lv_istore (lv' := [(5, .int (iI (0))), (6, .int (iI (0))), (7, .int (iI (j))), (3, .int (iI (pa + 1))), (4, .int (iI (0))), (2, .int (iI (1))), (1, .int (iI (i))), (0, .ref m0)]) hx hb dX3_line_246 hl (by decide) rfl (fun ls hl => ?_)
                                refine lv_iinc (v := iI (j + 1)) (lv' := [(7, .int (iI (j + 1))), (5, .int (iI (0))), (6, .int (iI (0))), (3, .int (iI (pa + 1))), (4, .int (iI (0))), (2, .int (iI (1))), (1, .int (iI (i))), (0, .ref m0)]) hx hb dX3_line_248 hl (k := 2) rfl (iI_add _ _) (by decide) rfl (fun ls hl => ?_)
                                refine lv_goto (tgt := 179) hx hb dX3_line_251 (by decide) ?_
                                exact ih2 (j + 1) (0) (0) ls (by omega) (by omega) (Or.inr ⟨rfl, by (rcases hg with ⟨e0, e⟩ | ⟨e0, e⟩); (first | omega | (rw [e, zDig_b (by omega)]; rfl)); exact e⟩) (lv_sub hl [0, 1, 2, 3, 4, 5, 6, 7] rfl)
                              · exact absurd cq28 (by omega)
                            · refine lv_aload_n hx hb dX3_line_190 rfl (lv_at hl 7 rfl) ?_
                              refine va_get (D := (dC, dI)) (ci := 3) (v := .ref mi) (C := "RequestCutterModel") (T := TX3) (N := 11) hx hb hts (fun w h => List.mem_cons_of_mem _ (inX3 w h)) hown hK hP 0 rfl rfl 1 (by decide) (hts _ (List.mem_cons_of_mem _ tw_267)) (fun _ h9 => h9) rfl dX3_line_191 ?_
                              refine lv_iload hx hb dX3_line_194 (lv_at hl 0 rfl) ?_
                              refine va_bald hx hb hK hP 1 0 rfl rfl (iI_in (by omega)) dX3_line_196 ?_
                              refine lx_top (x2 := (f) ((j).toNat)) (congrArg (f) (iI_cl (a := j) (by omega))) ?_
                              refine lx_top (x2 := iI (((f) ((j).toNat)).toInt)) (Int32.ofInt_toInt _).symm ?_
                              have g_m := mA hfit n (j) (by omega)
                              refine lv_bipush (v := iI (48)) hx hb dX3_line_197 (by decide) ?_
                              refine lx_icmp_lt (a := ((f) ((j).toNat)).toInt) (b := 48) (tgt := 218) hx hb dX3_line_199 (by decide) (by omega) (by omega) (fun cq29 => ?_) (fun cq29 => ?_)
                              · refine lv_iconst (v := iI (0)) hx hb dX3_line_218 rfl ?_
                                refine lv_istore (lv' := [(6, .int (iI (0))), (7, .int (iI (j))), (5, .int (iI (v))), (3, .int (iI (pa + 1))), (4, .int (iI (0))), (2, .int (iI (1))), (1, .int (iI (i))), (0, .ref m0)]) hx hb dX3_line_219 hl (by decide) rfl (fun ls hl => ?_)
                                refine lv_iload hx hb dX3_line_221 (lv_at hl 0 rfl) ?_
                                refine lx_if_eq (a := 0) (tgt := 245) hx hb dX3_line_223 (by decide) (by omega) (fun cq30 => ?_) (fun cq30 => ?_)
                                · refine lv_iconst (v := iI (0)) hx hb dX3_line_245 rfl ?_
                                  refine lv_istore (lv' := [(5, .int (iI (0))), (6, .int (iI (0))), (7, .int (iI (j))), (3, .int (iI (pa + 1))), (4, .int (iI (0))), (2, .int (iI (1))), (1, .int (iI (i))), (0, .ref m0)]) hx hb dX3_line_246 hl (by decide) rfl (fun ls hl => ?_)
                                  refine lv_iinc (v := iI (j + 1)) (lv' := [(7, .int (iI (j + 1))), (5, .int (iI (0))), (6, .int (iI (0))), (3, .int (iI (pa + 1))), (4, .int (iI (0))), (2, .int (iI (1))), (1, .int (iI (i))), (0, .ref m0)]) hx hb dX3_line_248 hl (k := 2) rfl (iI_add _ _) (by decide) rfl (fun ls hl => ?_)
                                  refine lv_goto (tgt := 179) hx hb dX3_line_251 (by decide) ?_
                                  exact ih2 (j + 1) (0) (0) ls (by omega) (by omega) (Or.inr ⟨rfl, by (rcases hg with ⟨e0, e⟩ | ⟨e0, e⟩); (first | omega | (rw [e, zDig_b (by omega)]; rfl)); exact e⟩) (lv_sub hl [0, 1, 2, 3, 4, 5, 6, 7] rfl)
                                · exact absurd cq30 (by omega)
                              · refine lv_aload_n hx hb dX3_line_202 rfl (lv_at hl 7 rfl) ?_
                                refine va_get (D := (dC, dI)) (ci := 3) (v := .ref mi) (C := "RequestCutterModel") (T := TX3) (N := 11) hx hb hts (fun w h => List.mem_cons_of_mem _ (inX3 w h)) hown hK hP 0 rfl rfl 1 (by decide) (hts _ (List.mem_cons_of_mem _ tw_267)) (fun _ h9 => h9) rfl dX3_line_203 ?_
                                refine lv_iload hx hb dX3_line_206 (lv_at hl 0 rfl) ?_
                                refine va_bald hx hb hK hP 1 0 rfl rfl (iI_in (by omega)) dX3_line_208 ?_
                                refine lx_top (x2 := (f) ((j).toNat)) (congrArg (f) (iI_cl (a := j) (by omega))) ?_
                                refine lx_top (x2 := iI (((f) ((j).toNat)).toInt)) (Int32.ofInt_toInt _).symm ?_
                                have g_m := mA hfit n (j) (by omega)
                                refine lv_bipush (v := iI (57)) hx hb dX3_line_209 (by decide) ?_
                                refine lx_icmp_gt (a := ((f) ((j).toNat)).toInt) (b := 57) (tgt := 218) hx hb dX3_line_211 (by decide) (by omega) (by omega) (fun cq31 => ?_) (fun cq31 => ?_)
                                · refine lv_iconst (v := iI (0)) hx hb dX3_line_218 rfl ?_
                                  refine lv_istore (lv' := [(6, .int (iI (0))), (7, .int (iI (j))), (5, .int (iI (v))), (3, .int (iI (pa + 1))), (4, .int (iI (0))), (2, .int (iI (1))), (1, .int (iI (i))), (0, .ref m0)]) hx hb dX3_line_219 hl (by decide) rfl (fun ls hl => ?_)
                                  refine lv_iload hx hb dX3_line_221 (lv_at hl 0 rfl) ?_
                                  refine lx_if_eq (a := 0) (tgt := 245) hx hb dX3_line_223 (by decide) (by omega) (fun cq32 => ?_) (fun cq32 => ?_)
                                  · refine lv_iconst (v := iI (0)) hx hb dX3_line_245 rfl ?_
                                    refine lv_istore (lv' := [(5, .int (iI (0))), (6, .int (iI (0))), (7, .int (iI (j))), (3, .int (iI (pa + 1))), (4, .int (iI (0))), (2, .int (iI (1))), (1, .int (iI (i))), (0, .ref m0)]) hx hb dX3_line_246 hl (by decide) rfl (fun ls hl => ?_)
                                    refine lv_iinc (v := iI (j + 1)) (lv' := [(7, .int (iI (j + 1))), (5, .int (iI (0))), (6, .int (iI (0))), (3, .int (iI (pa + 1))), (4, .int (iI (0))), (2, .int (iI (1))), (1, .int (iI (i))), (0, .ref m0)]) hx hb dX3_line_248 hl (k := 2) rfl (iI_add _ _) (by decide) rfl (fun ls hl => ?_)
                                    refine lv_goto (tgt := 179) hx hb dX3_line_251 (by decide) ?_
                                    exact ih2 (j + 1) (0) (0) ls (by omega) (by omega) (Or.inr ⟨rfl, by (rcases hg with ⟨e0, e⟩ | ⟨e0, e⟩); (first | omega | (rw [e, zDig_b (by omega)]; rfl)); exact e⟩) (lv_sub hl [0, 1, 2, 3, 4, 5, 6, 7] rfl)
                                  · exact absurd cq32 (by omega)
                                · refine lv_iconst (v := iI (1)) hx hb dX3_line_214 rfl ?_
                                  refine lv_goto (tgt := 219) hx hb dX3_line_215 (by decide) ?_
                                  refine lv_istore (lv' := [(6, .int (iI (1))), (7, .int (iI (j))), (5, .int (iI (v))), (3, .int (iI (pa + 1))), (4, .int (iI (0))), (2, .int (iI (1))), (1, .int (iI (i))), (0, .ref m0)]) hx hb dX3_line_219 hl (by decide) rfl (fun ls hl => ?_)
                                  refine lv_iload hx hb dX3_line_221 (lv_at hl 0 rfl) ?_
                                  refine lx_if_eq (a := 1) (tgt := 245) hx hb dX3_line_223 (by decide) (by omega) (fun cq33 => ?_) (fun cq33 => ?_)
                                  · exact absurd cq33 (by omega)
                                  · refine lv_bipush (v := iI (10)) hx hb dX3_line_226 (by decide) ?_
                                    refine lv_iload hx hb dX3_line_228 (lv_at hl 2 rfl) ?_
                                    refine lx_imul (a := 10) (b := v) hx hb dX3_line_230 ?_
                                    refine lv_aload_n hx hb dX3_line_231 rfl (lv_at hl 7 rfl) ?_
                                    refine va_get (D := (dC, dI)) (ci := 3) (v := .ref mi) (C := "RequestCutterModel") (T := TX3) (N := 11) hx hb hts (fun w h => List.mem_cons_of_mem _ (inX3 w h)) hown hK hP 0 rfl rfl 1 (by decide) (hts _ (List.mem_cons_of_mem _ tw_267)) (fun _ h9 => h9) rfl dX3_line_232 ?_
                                    refine lv_iload hx hb dX3_line_235 (lv_at hl 1 rfl) ?_
                                    refine va_bald hx hb hK hP 1 0 rfl rfl (iI_in (by omega)) dX3_line_237 ?_
                                    refine lx_top (x2 := (f) ((j).toNat)) (congrArg (f) (iI_cl (a := j) (by omega))) ?_
                                    refine lx_top (x2 := iI (((f) ((j).toNat)).toInt)) (Int32.ofInt_toInt _).symm ?_
                                    have g_m := mA hfit n (j) (by omega)
                                    refine lx_iadd (a := 10 * v) (b := ((f) ((j).toNat)).toInt) hx hb dX3_line_238 ?_
                                    refine lv_bipush (v := iI (48)) hx hb dX3_line_239 (by decide) ?_
                                    refine lx_isub (a := (10 * v) + (((f) ((j).toNat)).toInt)) (b := 48) hx hb dX3_line_241 ?_
                                    refine lv_goto (tgt := 246) hx hb dX3_line_242 (by decide) ?_
                                    refine lv_istore (lv' := [(5, .int (iI (((10 * v) + (((f) ((j).toNat)).toInt)) - 48))), (6, .int (iI (1))), (7, .int (iI (j))), (3, .int (iI (pa + 1))), (4, .int (iI (0))), (2, .int (iI (1))), (1, .int (iI (i))), (0, .ref m0)]) hx hb dX3_line_246 hl (by decide) rfl (fun ls hl => ?_)
                                    refine lv_iinc (v := iI (j + 1)) (lv' := [(7, .int (iI (j + 1))), (5, .int (iI (((10 * v) + (((f) ((j).toNat)).toInt)) - 48))), (6, .int (iI (1))), (3, .int (iI (pa + 1))), (4, .int (iI (0))), (2, .int (iI (1))), (1, .int (iI (i))), (0, .ref m0)]) hx hb dX3_line_248 hl (k := 2) rfl (iI_add _ _) (by decide) rfl (fun ls hl => ?_)
                                    refine lv_goto (tgt := 179) hx hb dX3_line_251 (by decide) ?_
                                    exact ih2 (j + 1) (((10 * v) + (((f) ((j).toNat)).toInt)) - 48) (1) ls (by omega) (by omega) (Or.inl ⟨rfl, by rcases hg with ⟨e0, e⟩ | ⟨e0, e⟩; rw [e, zDig_s (((10 * v) + (((f) ((j).toNat)).toInt)) - 48) (by omega) (by omega)]; omega⟩) (lv_sub hl [0, 1, 2, 3, 4, 5, 6, 7] rfl)
                      · refine lv_iload_n hx hb dX3_line_161 rfl (lv_at hl 4 rfl) ?_
                        refine lv_iload_n hx hb dX3_line_162 rfl (lv_at hl 1 rfl) ?_
                        refine lv_bipush (v := iI (6)) hx hb dX3_line_163 (by decide) ?_
                        refine lx_iadd (a := pa + 1) (b := 6) hx hb dX3_line_165 ?_
                        refine lx_icmp_gt (a := i) (b := (pa + 1) + 6) (tgt := 173) hx hb dX3_line_166 (by decide) (by omega) (by omega) (fun cq34 => ?_) (fun cq34 => ?_)
                        · refine lv_iconst (v := iI (0)) hx hb dX3_line_173 rfl ?_
                          refine lv_istore (lv' := [(6, .int (iI (0))), (5, .int (iI (0))), (3, .int (iI (pa + 1))), (4, .int (iI (0))), (2, .int (iI (1))), (1, .int (iI (i))), (0, .ref m0)]) hx hb dX3_line_174 hl (by decide) rfl (fun ls hl => ?_)
                          refine lv_iload_n hx hb dX3_line_176 rfl (lv_at hl 2 rfl) ?_
                          refine lv_istore (lv' := [(7, .int (iI (pa + 1))), (6, .int (iI (0))), (5, .int (iI (0))), (3, .int (iI (pa + 1))), (4, .int (iI (0))), (2, .int (iI (1))), (1, .int (iI (i))), (0, .ref m0)]) hx hb dX3_line_177 hl (by decide) rfl (fun ls hl => ?_)
                          refine (?_ : ∀ (k2 : Nat) (j : Int) (v : Int) (g : Int) (ls : Array Slot), (i - j ≤ k2 ∧ (0 < k2 → j + k2 = i)) → (pa + 1 ≤ j ∧ j ≤ pa + 20) → ((g = 1 ∧ zNum (bA f n) (pa + 1) i = (zDig (bA f n) k2 j v).map (fun x => x)) ∨ (g = 0 ∧ zNum (bA f n) (pa + 1) i = none)) → lv_has ls 8 [(7, .int (iI (j))), (5, .int (iI (v))), (6, .int (iI (g))), (3, .int (iI (pa + 1))), (4, .int (iI (0))), (2, .int (iI (1))), (1, .int (iI (i))), (0, .ref m0)] → W p l e _ s m _ below meth c _ _ _ _ _ (F0 m 179 ls [])) ((i - (pa + 1)).toNat) (pa + 1) (0) (0) ls (by omega) (by omega) (Or.inr ⟨rfl, zNum_0 (by rw [if_neg (by omega)]; omega)⟩) (lv_sub hl [0, 2, 1, 3, 4, 5, 6, 7] rfl)
                          intro k2
                          induction k2 with
                          | zero =>
                            intro j v g ls hk2 hj hg hl
                            refine lv_iload hx hb dX3_line_179 (lv_at hl 0 rfl) ?_
                            refine lv_iload_n hx hb dX3_line_181 rfl (lv_at hl 6 rfl) ?_
                            refine lx_icmp_ge (a := j) (b := i) (tgt := 254) hx hb dX3_line_182 (by decide) (by omega) (by omega) (fun cq35 => ?_) (fun cq35 => ?_)
                            · refine lv_aload_n hx hb dX3_line_254 rfl (lv_at hl 7 rfl) ?_
                              refine lv_iload_n hx hb dX3_line_255 rfl (lv_at hl 6 rfl) ?_
                              refine lv_iconst (v := iI (2)) hx hb dX3_line_256 rfl ?_
                              refine lx_iadd (a := i) (b := 2) hx hb dX3_line_257 ?_
                              refine va_put (D := (dC, dI)) (ci := 3) (v := .int (iI (i + 2))) (ty := .int) (C := "RequestCutterModel") (T := TX3) (N := 11) hx hb hts (fun w h => List.mem_cons_of_mem _ (inX3 w h)) tyX3 tyX3_ok nmX3 hown hK hP hD hS 0 rfl rfl 10 (by decide) (hts _ (List.mem_cons_of_mem _ tw_276)) (fun _ h9 => h9) rfl (by decide +kernel) rfl rfl (Nat.le_of_ble_eq_true rfl) dX3_line_258 (fun H locs hP hD hS => ?_)
                              have hP : va_P (dC, dI) vwCl [(m0, .inr (3, [.ref mt, .ref mi, .ref mk, .ref mf, .ref ml, .int (iI ((tc : Int))), .int (iI ((n : Int))), .int (iI ((w : Int))), .int (iI ((ks : Int))), .int (iI (ft)), .int (iI (i + 2))])), (mi, .inl (cB, 65536, .inl (f)))] H := hP
                              have hD : va_D A [(m0, .inr (3, [.ref mt, .ref mi, .ref mk, .ref mf, .ref ml, .int (iI ((tc : Int))), .int (iI ((n : Int))), .int (iI ((w : Int))), .int (iI ((ks : Int))), .int (iI (ft)), .int (iI (i + 2))])), (mi, .inl (cB, 65536, .inl (f)))] := hD
                              refine lv_iload hx hb dX3_line_261 (lv_at hl 2 rfl) ?_
                              refine lx_if_ne (a := g) (tgt := 271) hx hb dX3_line_263 (by decide) (by omega) (fun cq36 => ?_) (fun cq36 => ?_)
                              · refine lv_iload hx hb dX3_line_271 (lv_at hl 4 rfl) ?_
                                refine lx_if_eq (a := 0) (tgt := 282) hx hb dX3_line_273 (by decide) (by omega) (fun cq37 => ?_) (fun cq37 => ?_)
                                · refine lv_iload hx hb dX3_line_282 (lv_at hl 1 rfl) ?_
                                  have hN : (zNum (bA f n) (pa + 1) i).getD (-1000001) = v := by (rcases hg with ⟨e0, e⟩ | ⟨e0, e⟩); rw [e]; rfl; omega
                                  exact W.iret (v := iI (v)) hx hb hr (fun t ht hW => ⟨⟨iI (v), (i + 2), rfl, ⟨by rw [mL_2 hStp (by omega), hN], by rw [mL_2 hStp (by omega)]⟩, by rw [ht]; exact hP, va_K.moved hW.alike hK, hD⟩, hS.F ht⟩) hS.2.2 dX3_line_284
                                · exact absurd cq37 (by omega)
                              · refine lx_ldc (z := -1000001) (v := -1000001) hx hb hown (hts _ (List.mem_cons_of_mem _ tw_336)) (by decide) dX3_line_266 ?_
                                refine lv_goto (tgt := 284) hx hb dX3_line_268 (by decide) ?_
                                have hN : (zNum (bA f n) (pa + 1) i).getD (-1000001) = -1000001 := by (rcases hg with ⟨e0, e⟩ | ⟨e0, e⟩); omega; rw [e]; rfl
                                exact W.iret (v := iI (-1000001)) hx hb hr (fun t ht hW => ⟨⟨iI (-1000001), (i + 2), rfl, ⟨by rw [mL_2 hStp (by omega), hN], by rw [mL_2 hStp (by omega)]⟩, by rw [ht]; exact hP, va_K.moved hW.alike hK, hD⟩, hS.F ht⟩) hS.2.2 dX3_line_284
                            · exact absurd cq35 (by omega)
                          | succ k2 ih2 =>
                            intro j v g ls hk2 hj hg hl
                            refine lv_iload hx hb dX3_line_179 (lv_at hl 0 rfl) ?_
                            refine lv_iload_n hx hb dX3_line_181 rfl (lv_at hl 6 rfl) ?_
                            refine lx_icmp_ge (a := j) (b := i) (tgt := 254) hx hb dX3_line_182 (by decide) (by omega) (by omega) (fun cq38 => ?_) (fun cq38 => ?_)
                            · exact absurd cq38 (by omega)
                            · refine lv_iload hx hb dX3_line_185 (lv_at hl 2 rfl) ?_
                              refine lx_if_eq (a := g) (tgt := 218) hx hb dX3_line_187 (by decide) (by omega) (fun cq39 => ?_) (fun cq39 => ?_)
                              · refine lv_iconst (v := iI (0)) hx hb dX3_line_218 rfl ?_
                                refine lv_istore (lv' := [(6, .int (iI (0))), (7, .int (iI (j))), (5, .int (iI (v))), (3, .int (iI (pa + 1))), (4, .int (iI (0))), (2, .int (iI (1))), (1, .int (iI (i))), (0, .ref m0)]) hx hb dX3_line_219 hl (by decide) rfl (fun ls hl => ?_)
                                refine lv_iload hx hb dX3_line_221 (lv_at hl 0 rfl) ?_
                                refine lx_if_eq (a := 0) (tgt := 245) hx hb dX3_line_223 (by decide) (by omega) (fun cq40 => ?_) (fun cq40 => ?_)
                                · refine lv_iconst (v := iI (0)) hx hb dX3_line_245 rfl ?_
                                  refine lv_istore (lv' := [(5, .int (iI (0))), (6, .int (iI (0))), (7, .int (iI (j))), (3, .int (iI (pa + 1))), (4, .int (iI (0))), (2, .int (iI (1))), (1, .int (iI (i))), (0, .ref m0)]) hx hb dX3_line_246 hl (by decide) rfl (fun ls hl => ?_)
                                  refine lv_iinc (v := iI (j + 1)) (lv' := [(7, .int (iI (j + 1))), (5, .int (iI (0))), (6, .int (iI (0))), (3, .int (iI (pa + 1))), (4, .int (iI (0))), (2, .int (iI (1))), (1, .int (iI (i))), (0, .ref m0)]) hx hb dX3_line_248 hl (k := 2) rfl (iI_add _ _) (by decide) rfl (fun ls hl => ?_)
                                  refine lv_goto (tgt := 179) hx hb dX3_line_251 (by decide) ?_
                                  exact ih2 (j + 1) (0) (0) ls (by omega) (by omega) (Or.inr ⟨rfl, by (rcases hg with ⟨e0, e⟩ | ⟨e0, e⟩); (first | omega | (rw [e, zDig_b (by omega)]; rfl)); exact e⟩) (lv_sub hl [0, 1, 2, 3, 4, 5, 6, 7] rfl)
                                · exact absurd cq40 (by omega)
                              · refine lv_aload_n hx hb dX3_line_190 rfl (lv_at hl 7 rfl) ?_
                                refine va_get (D := (dC, dI)) (ci := 3) (v := .ref mi) (C := "RequestCutterModel") (T := TX3) (N := 11) hx hb hts (fun w h => List.mem_cons_of_mem _ (inX3 w h)) hown hK hP 0 rfl rfl 1 (by decide) (hts _ (List.mem_cons_of_mem _ tw_267)) (fun _ h9 => h9) rfl dX3_line_191 ?_
                                refine lv_iload hx hb dX3_line_194 (lv_at hl 0 rfl) ?_
                                refine va_bald hx hb hK hP 1 0 rfl rfl (iI_in (by omega)) dX3_line_196 ?_
                                refine lx_top (x2 := (f) ((j).toNat)) (congrArg (f) (iI_cl (a := j) (by omega))) ?_
                                refine lx_top (x2 := iI (((f) ((j).toNat)).toInt)) (Int32.ofInt_toInt _).symm ?_
                                have g_m := mA hfit n (j) (by omega)
                                refine lv_bipush (v := iI (48)) hx hb dX3_line_197 (by decide) ?_
                                refine lx_icmp_lt (a := ((f) ((j).toNat)).toInt) (b := 48) (tgt := 218) hx hb dX3_line_199 (by decide) (by omega) (by omega) (fun cq41 => ?_) (fun cq41 => ?_)
                                · refine lv_iconst (v := iI (0)) hx hb dX3_line_218 rfl ?_
                                  refine lv_istore (lv' := [(6, .int (iI (0))), (7, .int (iI (j))), (5, .int (iI (v))), (3, .int (iI (pa + 1))), (4, .int (iI (0))), (2, .int (iI (1))), (1, .int (iI (i))), (0, .ref m0)]) hx hb dX3_line_219 hl (by decide) rfl (fun ls hl => ?_)
                                  refine lv_iload hx hb dX3_line_221 (lv_at hl 0 rfl) ?_
                                  refine lx_if_eq (a := 0) (tgt := 245) hx hb dX3_line_223 (by decide) (by omega) (fun cq42 => ?_) (fun cq42 => ?_)
                                  · refine lv_iconst (v := iI (0)) hx hb dX3_line_245 rfl ?_
                                    refine lv_istore (lv' := [(5, .int (iI (0))), (6, .int (iI (0))), (7, .int (iI (j))), (3, .int (iI (pa + 1))), (4, .int (iI (0))), (2, .int (iI (1))), (1, .int (iI (i))), (0, .ref m0)]) hx hb dX3_line_246 hl (by decide) rfl (fun ls hl => ?_)
                                    refine lv_iinc (v := iI (j + 1)) (lv' := [(7, .int (iI (j + 1))), (5, .int (iI (0))), (6, .int (iI (0))), (3, .int (iI (pa + 1))), (4, .int (iI (0))), (2, .int (iI (1))), (1, .int (iI (i))), (0, .ref m0)]) hx hb dX3_line_248 hl (k := 2) rfl (iI_add _ _) (by decide) rfl (fun ls hl => ?_)
                                    refine lv_goto (tgt := 179) hx hb dX3_line_251 (by decide) ?_
                                    exact ih2 (j + 1) (0) (0) ls (by omega) (by omega) (Or.inr ⟨rfl, by (rcases hg with ⟨e0, e⟩ | ⟨e0, e⟩); (first | omega | (rw [e, zDig_b (by omega)]; rfl)); exact e⟩) (lv_sub hl [0, 1, 2, 3, 4, 5, 6, 7] rfl)
                                  · exact absurd cq42 (by omega)
                                · refine lv_aload_n hx hb dX3_line_202 rfl (lv_at hl 7 rfl) ?_
                                  refine va_get (D := (dC, dI)) (ci := 3) (v := .ref mi) (C := "RequestCutterModel") (T := TX3) (N := 11) hx hb hts (fun w h => List.mem_cons_of_mem _ (inX3 w h)) hown hK hP 0 rfl rfl 1 (by decide) (hts _ (List.mem_cons_of_mem _ tw_267)) (fun _ h9 => h9) rfl dX3_line_203 ?_
                                  refine lv_iload hx hb dX3_line_206 (lv_at hl 0 rfl) ?_
                                  refine va_bald hx hb hK hP 1 0 rfl rfl (iI_in (by omega)) dX3_line_208 ?_
                                  refine lx_top (x2 := (f) ((j).toNat)) (congrArg (f) (iI_cl (a := j) (by omega))) ?_
                                  refine lx_top (x2 := iI (((f) ((j).toNat)).toInt)) (Int32.ofInt_toInt _).symm ?_
                                  have g_m := mA hfit n (j) (by omega)
                                  refine lv_bipush (v := iI (57)) hx hb dX3_line_209 (by decide) ?_
                                  refine lx_icmp_gt (a := ((f) ((j).toNat)).toInt) (b := 57) (tgt := 218) hx hb dX3_line_211 (by decide) (by omega) (by omega) (fun cq43 => ?_) (fun cq43 => ?_)
                                  · refine lv_iconst (v := iI (0)) hx hb dX3_line_218 rfl ?_
                                    refine lv_istore (lv' := [(6, .int (iI (0))), (7, .int (iI (j))), (5, .int (iI (v))), (3, .int (iI (pa + 1))), (4, .int (iI (0))), (2, .int (iI (1))), (1, .int (iI (i))), (0, .ref m0)]) hx hb dX3_line_219 hl (by decide) rfl (fun ls hl => ?_)
                                    refine lv_iload hx hb dX3_line_221 (lv_at hl 0 rfl) ?_
                                    refine lx_if_eq (a := 0) (tgt := 245) hx hb dX3_line_223 (by decide) (by omega) (fun cq44 => ?_) (fun cq44 => ?_)
                                    · refine lv_iconst (v := iI (0)) hx hb dX3_line_245 rfl ?_
                                      refine lv_istore (lv' := [(5, .int (iI (0))), (6, .int (iI (0))), (7, .int (iI (j))), (3, .int (iI (pa + 1))), (4, .int (iI (0))), (2, .int (iI (1))), (1, .int (iI (i))), (0, .ref m0)]) hx hb dX3_line_246 hl (by decide) rfl (fun ls hl => ?_)
                                      refine lv_iinc (v := iI (j + 1)) (lv' := [(7, .int (iI (j + 1))), (5, .int (iI (0))), (6, .int (iI (0))), (3, .int (iI (pa + 1))), (4, .int (iI (0))), (2, .int (iI (1))), (1, .int (iI (i))), (0, .ref m0)]) hx hb dX3_line_248 hl (k := 2) rfl (iI_add _ _) (by decide) rfl (fun ls hl => ?_)
                                      refine lv_goto (tgt := 179) hx hb dX3_line_251 (by decide) ?_
                                      exact ih2 (j + 1) (0) (0) ls (by omega) (by omega) (Or.inr ⟨rfl, by (rcases hg with ⟨e0, e⟩ | ⟨e0, e⟩); (first | omega | (rw [e, zDig_b (by omega)]; rfl)); exact e⟩) (lv_sub hl [0, 1, 2, 3, 4, 5, 6, 7] rfl)
                                    · exact absurd cq44 (by omega)
                                  · refine lv_iconst (v := iI (1)) hx hb dX3_line_214 rfl ?_
                                    refine lv_goto (tgt := 219) hx hb dX3_line_215 (by decide) ?_
                                    refine lv_istore (lv' := [(6, .int (iI (1))), (7, .int (iI (j))), (5, .int (iI (v))), (3, .int (iI (pa + 1))), (4, .int (iI (0))), (2, .int (iI (1))), (1, .int (iI (i))), (0, .ref m0)]) hx hb dX3_line_219 hl (by decide) rfl (fun ls hl => ?_)
                                    refine lv_iload hx hb dX3_line_221 (lv_at hl 0 rfl) ?_
                                    refine lx_if_eq (a := 1) (tgt := 245) hx hb dX3_line_223 (by decide) (by omega) (fun cq45 => ?_) (fun cq45 => ?_)
                                    · exact absurd cq45 (by omega)
                                    · refine lv_bipush (v := iI (10)) hx hb dX3_line_226 (by decide) ?_
                                      refine lv_iload hx hb dX3_line_228 (lv_at hl 2 rfl) ?_
                                      refine lx_imul (a := 10) (b := v) hx hb dX3_line_230 ?_
                                      refine lv_aload_n hx hb dX3_line_231 rfl (lv_at hl 7 rfl) ?_
                                      refine va_get (D := (dC, dI)) (ci := 3) (v := .ref mi) (C := "RequestCutterModel") (T := TX3) (N := 11) hx hb hts (fun w h => List.mem_cons_of_mem _ (inX3 w h)) hown hK hP 0 rfl rfl 1 (by decide) (hts _ (List.mem_cons_of_mem _ tw_267)) (fun _ h9 => h9) rfl dX3_line_232 ?_
                                      refine lv_iload hx hb dX3_line_235 (lv_at hl 1 rfl) ?_
                                      refine va_bald hx hb hK hP 1 0 rfl rfl (iI_in (by omega)) dX3_line_237 ?_
                                      refine lx_top (x2 := (f) ((j).toNat)) (congrArg (f) (iI_cl (a := j) (by omega))) ?_
                                      refine lx_top (x2 := iI (((f) ((j).toNat)).toInt)) (Int32.ofInt_toInt _).symm ?_
                                      have g_m := mA hfit n (j) (by omega)
                                      refine lx_iadd (a := 10 * v) (b := ((f) ((j).toNat)).toInt) hx hb dX3_line_238 ?_
                                      refine lv_bipush (v := iI (48)) hx hb dX3_line_239 (by decide) ?_
                                      refine lx_isub (a := (10 * v) + (((f) ((j).toNat)).toInt)) (b := 48) hx hb dX3_line_241 ?_
                                      refine lv_goto (tgt := 246) hx hb dX3_line_242 (by decide) ?_
                                      refine lv_istore (lv' := [(5, .int (iI (((10 * v) + (((f) ((j).toNat)).toInt)) - 48))), (6, .int (iI (1))), (7, .int (iI (j))), (3, .int (iI (pa + 1))), (4, .int (iI (0))), (2, .int (iI (1))), (1, .int (iI (i))), (0, .ref m0)]) hx hb dX3_line_246 hl (by decide) rfl (fun ls hl => ?_)
                                      refine lv_iinc (v := iI (j + 1)) (lv' := [(7, .int (iI (j + 1))), (5, .int (iI (((10 * v) + (((f) ((j).toNat)).toInt)) - 48))), (6, .int (iI (1))), (3, .int (iI (pa + 1))), (4, .int (iI (0))), (2, .int (iI (1))), (1, .int (iI (i))), (0, .ref m0)]) hx hb dX3_line_248 hl (k := 2) rfl (iI_add _ _) (by decide) rfl (fun ls hl => ?_)
                                      refine lv_goto (tgt := 179) hx hb dX3_line_251 (by decide) ?_
                                      exact ih2 (j + 1) (((10 * v) + (((f) ((j).toNat)).toInt)) - 48) (1) ls (by omega) (by omega) (Or.inl ⟨rfl, by rcases hg with ⟨e0, e⟩ | ⟨e0, e⟩; rw [e, zDig_s (((10 * v) + (((f) ((j).toNat)).toInt)) - 48) (by omega) (by omega)]; omega⟩) (lv_sub hl [0, 1, 2, 3, 4, 5, 6, 7] rfl)
                        · refine lv_iconst (v := iI (1)) hx hb dX3_line_169 rfl ?_
                          refine lv_goto (tgt := 174) hx hb dX3_line_170 (by decide) ?_
                          refine lv_istore (lv' := [(6, .int (iI (1))), (5, .int (iI (0))), (3, .int (iI (pa + 1))), (4, .int (iI (0))), (2, .int (iI (1))), (1, .int (iI (i))), (0, .ref m0)]) hx hb dX3_line_174 hl (by decide) rfl (fun ls hl => ?_)
                          refine lv_iload_n hx hb dX3_line_176 rfl (lv_at hl 2 rfl) ?_
                          refine lv_istore (lv' := [(7, .int (iI (pa + 1))), (6, .int (iI (1))), (5, .int (iI (0))), (3, .int (iI (pa + 1))), (4, .int (iI (0))), (2, .int (iI (1))), (1, .int (iI (i))), (0, .ref m0)]) hx hb dX3_line_177 hl (by decide) rfl (fun ls hl => ?_)
                          refine (?_ : ∀ (k2 : Nat) (j : Int) (v : Int) (g : Int) (ls : Array Slot), (i - j ≤ k2 ∧ (0 < k2 → j + k2 = i)) → (pa + 1 ≤ j ∧ j ≤ pa + 20) → ((g = 1 ∧ zNum (bA f n) (pa + 1) i = (zDig (bA f n) k2 j v).map (fun x => x)) ∨ (g = 0 ∧ zNum (bA f n) (pa + 1) i = none)) → lv_has ls 8 [(7, .int (iI (j))), (5, .int (iI (v))), (6, .int (iI (g))), (3, .int (iI (pa + 1))), (4, .int (iI (0))), (2, .int (iI (1))), (1, .int (iI (i))), (0, .ref m0)] → W p l e _ s m _ below meth c _ _ _ _ _ (F0 m 179 ls [])) ((i - (pa + 1)).toNat) (pa + 1) (0) (1) ls (by omega) (by omega) (Or.inl ⟨rfl, zNum_p (by omega) (by omega)⟩) (lv_sub hl [0, 2, 1, 3, 4, 5, 6, 7] rfl)
                          intro k2
                          induction k2 with
                          | zero =>
                            intro j v g ls hk2 hj hg hl
                            refine lv_iload hx hb dX3_line_179 (lv_at hl 0 rfl) ?_
                            refine lv_iload_n hx hb dX3_line_181 rfl (lv_at hl 6 rfl) ?_
                            refine lx_icmp_ge (a := j) (b := i) (tgt := 254) hx hb dX3_line_182 (by decide) (by omega) (by omega) (fun cq46 => ?_) (fun cq46 => ?_)
                            · refine lv_aload_n hx hb dX3_line_254 rfl (lv_at hl 7 rfl) ?_
                              refine lv_iload_n hx hb dX3_line_255 rfl (lv_at hl 6 rfl) ?_
                              refine lv_iconst (v := iI (2)) hx hb dX3_line_256 rfl ?_
                              refine lx_iadd (a := i) (b := 2) hx hb dX3_line_257 ?_
                              refine va_put (D := (dC, dI)) (ci := 3) (v := .int (iI (i + 2))) (ty := .int) (C := "RequestCutterModel") (T := TX3) (N := 11) hx hb hts (fun w h => List.mem_cons_of_mem _ (inX3 w h)) tyX3 tyX3_ok nmX3 hown hK hP hD hS 0 rfl rfl 10 (by decide) (hts _ (List.mem_cons_of_mem _ tw_276)) (fun _ h9 => h9) rfl (by decide +kernel) rfl rfl (Nat.le_of_ble_eq_true rfl) dX3_line_258 (fun H locs hP hD hS => ?_)
                              have hP : va_P (dC, dI) vwCl [(m0, .inr (3, [.ref mt, .ref mi, .ref mk, .ref mf, .ref ml, .int (iI ((tc : Int))), .int (iI ((n : Int))), .int (iI ((w : Int))), .int (iI ((ks : Int))), .int (iI (ft)), .int (iI (i + 2))])), (mi, .inl (cB, 65536, .inl (f)))] H := hP
                              have hD : va_D A [(m0, .inr (3, [.ref mt, .ref mi, .ref mk, .ref mf, .ref ml, .int (iI ((tc : Int))), .int (iI ((n : Int))), .int (iI ((w : Int))), .int (iI ((ks : Int))), .int (iI (ft)), .int (iI (i + 2))])), (mi, .inl (cB, 65536, .inl (f)))] := hD
                              refine lv_iload hx hb dX3_line_261 (lv_at hl 2 rfl) ?_
                              refine lx_if_ne (a := g) (tgt := 271) hx hb dX3_line_263 (by decide) (by omega) (fun cq47 => ?_) (fun cq47 => ?_)
                              · refine lv_iload hx hb dX3_line_271 (lv_at hl 4 rfl) ?_
                                refine lx_if_eq (a := 0) (tgt := 282) hx hb dX3_line_273 (by decide) (by omega) (fun cq48 => ?_) (fun cq48 => ?_)
                                · refine lv_iload hx hb dX3_line_282 (lv_at hl 1 rfl) ?_
                                  have hN : (zNum (bA f n) (pa + 1) i).getD (-1000001) = v := by (rcases hg with ⟨e0, e⟩ | ⟨e0, e⟩); rw [e]; rfl; omega
                                  exact W.iret (v := iI (v)) hx hb hr (fun t ht hW => ⟨⟨iI (v), (i + 2), rfl, ⟨by rw [mL_2 hStp (by omega), hN], by rw [mL_2 hStp (by omega)]⟩, by rw [ht]; exact hP, va_K.moved hW.alike hK, hD⟩, hS.F ht⟩) hS.2.2 dX3_line_284
                                · exact absurd cq48 (by omega)
                              · refine lx_ldc (z := -1000001) (v := -1000001) hx hb hown (hts _ (List.mem_cons_of_mem _ tw_336)) (by decide) dX3_line_266 ?_
                                refine lv_goto (tgt := 284) hx hb dX3_line_268 (by decide) ?_
                                have hN : (zNum (bA f n) (pa + 1) i).getD (-1000001) = -1000001 := by (rcases hg with ⟨e0, e⟩ | ⟨e0, e⟩); omega; rw [e]; rfl
                                exact W.iret (v := iI (-1000001)) hx hb hr (fun t ht hW => ⟨⟨iI (-1000001), (i + 2), rfl, ⟨by rw [mL_2 hStp (by omega), hN], by rw [mL_2 hStp (by omega)]⟩, by rw [ht]; exact hP, va_K.moved hW.alike hK, hD⟩, hS.F ht⟩) hS.2.2 dX3_line_284
                            · exact absurd cq46 (by omega)
                          | succ k2 ih2 =>
                            intro j v g ls hk2 hj hg hl
                            refine lv_iload hx hb dX3_line_179 (lv_at hl 0 rfl) ?_
                            refine lv_iload_n hx hb dX3_line_181 rfl (lv_at hl 6 rfl) ?_
                            refine lx_icmp_ge (a := j) (b := i) (tgt := 254) hx hb dX3_line_182 (by decide) (by omega) (by omega) (fun cq49 => ?_) (fun cq49 => ?_)
                            · exact absurd cq49 (by omega)
                            · refine lv_iload hx hb dX3_line_185 (lv_at hl 2 rfl) ?_
                              refine lx_if_eq (a := g) (tgt := 218) hx hb dX3_line_187 (by decide) (by omega) (fun cq50 => ?_) (fun cq50 => ?_)
                              · refine lv_iconst (v := iI (0)) hx hb dX3_line_218 rfl ?_
                                refine lv_istore (lv' := [(6, .int (iI (0))), (7, .int (iI (j))), (5, .int (iI (v))), (3, .int (iI (pa + 1))), (4, .int (iI (0))), (2, .int (iI (1))), (1, .int (iI (i))), (0, .ref m0)]) hx hb dX3_line_219 hl (by decide) rfl (fun ls hl => ?_)
                                refine lv_iload hx hb dX3_line_221 (lv_at hl 0 rfl) ?_
                                refine lx_if_eq (a := 0) (tgt := 245) hx hb dX3_line_223 (by decide) (by omega) (fun cq51 => ?_) (fun cq51 => ?_)
                                · refine lv_iconst (v := iI (0)) hx hb dX3_line_245 rfl ?_
                                  refine lv_istore (lv' := [(5, .int (iI (0))), (6, .int (iI (0))), (7, .int (iI (j))), (3, .int (iI (pa + 1))), (4, .int (iI (0))), (2, .int (iI (1))), (1, .int (iI (i))), (0, .ref m0)]) hx hb dX3_line_246 hl (by decide) rfl (fun ls hl => ?_)
                                  refine lv_iinc (v := iI (j + 1)) (lv' := [(7, .int (iI (j + 1))), (5, .int (iI (0))), (6, .int (iI (0))), (3, .int (iI (pa + 1))), (4, .int (iI (0))), (2, .int (iI (1))), (1, .int (iI (i))), (0, .ref m0)]) hx hb dX3_line_248 hl (k := 2) rfl (iI_add _ _) (by decide) rfl (fun ls hl => ?_)
                                  refine lv_goto (tgt := 179) hx hb dX3_line_251 (by decide) ?_
                                  exact ih2 (j + 1) (0) (0) ls (by omega) (by omega) (Or.inr ⟨rfl, by (rcases hg with ⟨e0, e⟩ | ⟨e0, e⟩); (first | omega | (rw [e, zDig_b (by omega)]; rfl)); exact e⟩) (lv_sub hl [0, 1, 2, 3, 4, 5, 6, 7] rfl)
                                · exact absurd cq51 (by omega)
                              · refine lv_aload_n hx hb dX3_line_190 rfl (lv_at hl 7 rfl) ?_
                                refine va_get (D := (dC, dI)) (ci := 3) (v := .ref mi) (C := "RequestCutterModel") (T := TX3) (N := 11) hx hb hts (fun w h => List.mem_cons_of_mem _ (inX3 w h)) hown hK hP 0 rfl rfl 1 (by decide) (hts _ (List.mem_cons_of_mem _ tw_267)) (fun _ h9 => h9) rfl dX3_line_191 ?_
                                refine lv_iload hx hb dX3_line_194 (lv_at hl 0 rfl) ?_
                                refine va_bald hx hb hK hP 1 0 rfl rfl (iI_in (by omega)) dX3_line_196 ?_
                                refine lx_top (x2 := (f) ((j).toNat)) (congrArg (f) (iI_cl (a := j) (by omega))) ?_
                                refine lx_top (x2 := iI (((f) ((j).toNat)).toInt)) (Int32.ofInt_toInt _).symm ?_
                                have g_m := mA hfit n (j) (by omega)
                                refine lv_bipush (v := iI (48)) hx hb dX3_line_197 (by decide) ?_
                                refine lx_icmp_lt (a := ((f) ((j).toNat)).toInt) (b := 48) (tgt := 218) hx hb dX3_line_199 (by decide) (by omega) (by omega) (fun cq52 => ?_) (fun cq52 => ?_)
                                · refine lv_iconst (v := iI (0)) hx hb dX3_line_218 rfl ?_
                                  refine lv_istore (lv' := [(6, .int (iI (0))), (7, .int (iI (j))), (5, .int (iI (v))), (3, .int (iI (pa + 1))), (4, .int (iI (0))), (2, .int (iI (1))), (1, .int (iI (i))), (0, .ref m0)]) hx hb dX3_line_219 hl (by decide) rfl (fun ls hl => ?_)
                                  refine lv_iload hx hb dX3_line_221 (lv_at hl 0 rfl) ?_
                                  refine lx_if_eq (a := 0) (tgt := 245) hx hb dX3_line_223 (by decide) (by omega) (fun cq53 => ?_) (fun cq53 => ?_)
                                  · refine lv_iconst (v := iI (0)) hx hb dX3_line_245 rfl ?_
                                    refine lv_istore (lv' := [(5, .int (iI (0))), (6, .int (iI (0))), (7, .int (iI (j))), (3, .int (iI (pa + 1))), (4, .int (iI (0))), (2, .int (iI (1))), (1, .int (iI (i))), (0, .ref m0)]) hx hb dX3_line_246 hl (by decide) rfl (fun ls hl => ?_)
                                    refine lv_iinc (v := iI (j + 1)) (lv' := [(7, .int (iI (j + 1))), (5, .int (iI (0))), (6, .int (iI (0))), (3, .int (iI (pa + 1))), (4, .int (iI (0))), (2, .int (iI (1))), (1, .int (iI (i))), (0, .ref m0)]) hx hb dX3_line_248 hl (k := 2) rfl (iI_add _ _) (by decide) rfl (fun ls hl => ?_)
                                    refine lv_goto (tgt := 179) hx hb dX3_line_251 (by decide) ?_
                                    exact ih2 (j + 1) (0) (0) ls (by omega) (by omega) (Or.inr ⟨rfl, by (rcases hg with ⟨e0, e⟩ | ⟨e0, e⟩); (first | omega | (rw [e, zDig_b (by omega)]; rfl)); exact e⟩) (lv_sub hl [0, 1, 2, 3, 4, 5, 6, 7] rfl)
                                  · exact absurd cq53 (by omega)
                                · refine lv_aload_n hx hb dX3_line_202 rfl (lv_at hl 7 rfl) ?_
                                  refine va_get (D := (dC, dI)) (ci := 3) (v := .ref mi) (C := "RequestCutterModel") (T := TX3) (N := 11) hx hb hts (fun w h => List.mem_cons_of_mem _ (inX3 w h)) hown hK hP 0 rfl rfl 1 (by decide) (hts _ (List.mem_cons_of_mem _ tw_267)) (fun _ h9 => h9) rfl dX3_line_203 ?_
                                  refine lv_iload hx hb dX3_line_206 (lv_at hl 0 rfl) ?_
                                  refine va_bald hx hb hK hP 1 0 rfl rfl (iI_in (by omega)) dX3_line_208 ?_
                                  refine lx_top (x2 := (f) ((j).toNat)) (congrArg (f) (iI_cl (a := j) (by omega))) ?_
                                  refine lx_top (x2 := iI (((f) ((j).toNat)).toInt)) (Int32.ofInt_toInt _).symm ?_
                                  have g_m := mA hfit n (j) (by omega)
                                  refine lv_bipush (v := iI (57)) hx hb dX3_line_209 (by decide) ?_
                                  refine lx_icmp_gt (a := ((f) ((j).toNat)).toInt) (b := 57) (tgt := 218) hx hb dX3_line_211 (by decide) (by omega) (by omega) (fun cq54 => ?_) (fun cq54 => ?_)
                                  · refine lv_iconst (v := iI (0)) hx hb dX3_line_218 rfl ?_
                                    refine lv_istore (lv' := [(6, .int (iI (0))), (7, .int (iI (j))), (5, .int (iI (v))), (3, .int (iI (pa + 1))), (4, .int (iI (0))), (2, .int (iI (1))), (1, .int (iI (i))), (0, .ref m0)]) hx hb dX3_line_219 hl (by decide) rfl (fun ls hl => ?_)
                                    refine lv_iload hx hb dX3_line_221 (lv_at hl 0 rfl) ?_
                                    refine lx_if_eq (a := 0) (tgt := 245) hx hb dX3_line_223 (by decide) (by omega) (fun cq55 => ?_) (fun cq55 => ?_)
                                    · refine lv_iconst (v := iI (0)) hx hb dX3_line_245 rfl ?_
                                      refine lv_istore (lv' := [(5, .int (iI (0))), (6, .int (iI (0))), (7, .int (iI (j))), (3, .int (iI (pa + 1))), (4, .int (iI (0))), (2, .int (iI (1))), (1, .int (iI (i))), (0, .ref m0)]) hx hb dX3_line_246 hl (by decide) rfl (fun ls hl => ?_)
                                      refine lv_iinc (v := iI (j + 1)) (lv' := [(7, .int (iI (j + 1))), (5, .int (iI (0))), (6, .int (iI (0))), (3, .int (iI (pa + 1))), (4, .int (iI (0))), (2, .int (iI (1))), (1, .int (iI (i))), (0, .ref m0)]) hx hb dX3_line_248 hl (k := 2) rfl (iI_add _ _) (by decide) rfl (fun ls hl => ?_)
                                      refine lv_goto (tgt := 179) hx hb dX3_line_251 (by decide) ?_
                                      exact ih2 (j + 1) (0) (0) ls (by omega) (by omega) (Or.inr ⟨rfl, by (rcases hg with ⟨e0, e⟩ | ⟨e0, e⟩); (first | omega | (rw [e, zDig_b (by omega)]; rfl)); exact e⟩) (lv_sub hl [0, 1, 2, 3, 4, 5, 6, 7] rfl)
                                    · exact absurd cq55 (by omega)
                                  · refine lv_iconst (v := iI (1)) hx hb dX3_line_214 rfl ?_
                                    refine lv_goto (tgt := 219) hx hb dX3_line_215 (by decide) ?_
                                    refine lv_istore (lv' := [(6, .int (iI (1))), (7, .int (iI (j))), (5, .int (iI (v))), (3, .int (iI (pa + 1))), (4, .int (iI (0))), (2, .int (iI (1))), (1, .int (iI (i))), (0, .ref m0)]) hx hb dX3_line_219 hl (by decide) rfl (fun ls hl => ?_)
                                    refine lv_iload hx hb dX3_line_221 (lv_at hl 0 rfl) ?_
                                    refine lx_if_eq (a := 1) (tgt := 245) hx hb dX3_line_223 (by decide) (by omega) (fun cq56 => ?_) (fun cq56 => ?_)
                                    · exact absurd cq56 (by omega)
                                    · refine lv_bipush (v := iI (10)) hx hb dX3_line_226 (by decide) ?_
                                      refine lv_iload hx hb dX3_line_228 (lv_at hl 2 rfl) ?_
                                      refine lx_imul (a := 10) (b := v) hx hb dX3_line_230 ?_
                                      refine lv_aload_n hx hb dX3_line_231 rfl (lv_at hl 7 rfl) ?_
                                      refine va_get (D := (dC, dI)) (ci := 3) (v := .ref mi) (C := "RequestCutterModel") (T := TX3) (N := 11) hx hb hts (fun w h => List.mem_cons_of_mem _ (inX3 w h)) hown hK hP 0 rfl rfl 1 (by decide) (hts _ (List.mem_cons_of_mem _ tw_267)) (fun _ h9 => h9) rfl dX3_line_232 ?_
                                      refine lv_iload hx hb dX3_line_235 (lv_at hl 1 rfl) ?_
                                      refine va_bald hx hb hK hP 1 0 rfl rfl (iI_in (by omega)) dX3_line_237 ?_
                                      refine lx_top (x2 := (f) ((j).toNat)) (congrArg (f) (iI_cl (a := j) (by omega))) ?_
                                      refine lx_top (x2 := iI (((f) ((j).toNat)).toInt)) (Int32.ofInt_toInt _).symm ?_
                                      have g_m := mA hfit n (j) (by omega)
                                      refine lx_iadd (a := 10 * v) (b := ((f) ((j).toNat)).toInt) hx hb dX3_line_238 ?_
                                      refine lv_bipush (v := iI (48)) hx hb dX3_line_239 (by decide) ?_
                                      refine lx_isub (a := (10 * v) + (((f) ((j).toNat)).toInt)) (b := 48) hx hb dX3_line_241 ?_
                                      refine lv_goto (tgt := 246) hx hb dX3_line_242 (by decide) ?_
                                      refine lv_istore (lv' := [(5, .int (iI (((10 * v) + (((f) ((j).toNat)).toInt)) - 48))), (6, .int (iI (1))), (7, .int (iI (j))), (3, .int (iI (pa + 1))), (4, .int (iI (0))), (2, .int (iI (1))), (1, .int (iI (i))), (0, .ref m0)]) hx hb dX3_line_246 hl (by decide) rfl (fun ls hl => ?_)
                                      refine lv_iinc (v := iI (j + 1)) (lv' := [(7, .int (iI (j + 1))), (5, .int (iI (((10 * v) + (((f) ((j).toNat)).toInt)) - 48))), (6, .int (iI (1))), (3, .int (iI (pa + 1))), (4, .int (iI (0))), (2, .int (iI (1))), (1, .int (iI (i))), (0, .ref m0)]) hx hb dX3_line_248 hl (k := 2) rfl (iI_add _ _) (by decide) rfl (fun ls hl => ?_)
                                      refine lv_goto (tgt := 179) hx hb dX3_line_251 (by decide) ?_
                                      exact ih2 (j + 1) (((10 * v) + (((f) ((j).toNat)).toInt)) - 48) (1) ls (by omega) (by omega) (Or.inl ⟨rfl, by rcases hg with ⟨e0, e⟩ | ⟨e0, e⟩; rw [e, zDig_s (((10 * v) + (((f) ((j).toNat)).toInt)) - 48) (by omega) (by omega)]; omega⟩) (lv_sub hl [0, 1, 2, 3, 4, 5, 6, 7] rfl)
                    · exact absurd cq21 (by omega)
                  · refine lv_iconst (v := iI (1)) hx hb dX3_line_133 rfl ?_
                    refine lv_goto (tgt := 138) hx hb dX3_line_134 (by decide) ?_
                    refine lv_istore (lv' := [(4, .int (iI (1))), (3, .int (iI (pa + 1))), (2, .int (iI (1))), (1, .int (iI (i))), (0, .ref m0)]) hx hb dX3_line_138 hl (by decide) rfl (fun ls hl => ?_)
                    refine lv_iload hx hb dX3_line_140 (lv_at hl 0 rfl) ?_
                    refine lx_if_eq (a := 1) (tgt := 151) hx hb dX3_line_142 (by decide) (by omega) (fun cq57 => ?_) (fun cq57 => ?_)
                    · exact absurd cq57 (by omega)
                    · refine lv_iload_n hx hb dX3_line_145 rfl (lv_at hl 1 rfl) ?_
                      refine lv_iconst (v := iI (1)) hx hb dX3_line_146 rfl ?_
                      refine lx_iadd (a := pa + 1) (b := 1) hx hb dX3_line_147 ?_
                      refine lv_goto (tgt := 152) hx hb dX3_line_148 (by decide) ?_
                      refine lv_istore_n (lv' := [(3, .int (iI ((pa + 1) + 1))), (4, .int (iI (1))), (2, .int (iI (1))), (1, .int (iI (i))), (0, .ref m0)]) hx hb dX3_line_152 rfl hl (by decide) rfl (fun ls hl => ?_)
                      refine lv_iconst (v := iI (0)) hx hb dX3_line_153 rfl ?_
                      refine lv_istore (lv' := [(5, .int (iI (0))), (3, .int (iI ((pa + 1) + 1))), (4, .int (iI (1))), (2, .int (iI (1))), (1, .int (iI (i))), (0, .ref m0)]) hx hb dX3_line_154 hl (by decide) rfl (fun ls hl => ?_)
                      refine lv_iload_n hx hb dX3_line_156 rfl (lv_at hl 4 rfl) ?_
                      refine lv_iload_n hx hb dX3_line_157 rfl (lv_at hl 1 rfl) ?_
                      refine lx_icmp_le (a := i) (b := (pa + 1) + 1) (tgt := 173) hx hb dX3_line_158 (by decide) (by omega) (by omega) (fun cq58 => ?_) (fun cq58 => ?_)
                      · refine lv_iconst (v := iI (0)) hx hb dX3_line_173 rfl ?_
                        refine lv_istore (lv' := [(6, .int (iI (0))), (5, .int (iI (0))), (3, .int (iI ((pa + 1) + 1))), (4, .int (iI (1))), (2, .int (iI (1))), (1, .int (iI (i))), (0, .ref m0)]) hx hb dX3_line_174 hl (by decide) rfl (fun ls hl => ?_)
                        refine lv_iload_n hx hb dX3_line_176 rfl (lv_at hl 2 rfl) ?_
                        refine lv_istore (lv' := [(7, .int (iI ((pa + 1) + 1))), (6, .int (iI (0))), (5, .int (iI (0))), (3, .int (iI ((pa + 1) + 1))), (4, .int (iI (1))), (2, .int (iI (1))), (1, .int (iI (i))), (0, .ref m0)]) hx hb dX3_line_177 hl (by decide) rfl (fun ls hl => ?_)
                        refine (?_ : ∀ (k2 : Nat) (j : Int) (v : Int) (g : Int) (ls : Array Slot), (i - j ≤ k2 ∧ (0 < k2 → j + k2 = i)) → (pa + 1 ≤ j ∧ j ≤ pa + 20) → ((g = 1 ∧ zNum (bA f n) (pa + 1) i = (zDig (bA f n) k2 j v).map (fun x => -x)) ∨ (g = 0 ∧ zNum (bA f n) (pa + 1) i = none)) → lv_has ls 8 [(7, .int (iI (j))), (5, .int (iI (v))), (6, .int (iI (g))), (3, .int (iI ((pa + 1) + 1))), (4, .int (iI (1))), (2, .int (iI (1))), (1, .int (iI (i))), (0, .ref m0)] → W p l e _ s m _ below meth c _ _ _ _ _ (F0 m 179 ls [])) ((i - ((pa + 1) + 1)).toNat) ((pa + 1) + 1) (0) (0) ls (by omega) (by omega) (Or.inr ⟨rfl, zNum_0 (by rw [if_pos (by omega)]; omega)⟩) (lv_sub hl [0, 2, 1, 3, 4, 5, 6, 7] rfl)
                        intro k2
                        induction k2 with
                        | zero =>
                          intro j v g ls hk2 hj hg hl
                          refine lv_iload hx hb dX3_line_179 (lv_at hl 0 rfl) ?_
                          refine lv_iload_n hx hb dX3_line_181 rfl (lv_at hl 6 rfl) ?_
                          refine lx_icmp_ge (a := j) (b := i) (tgt := 254) hx hb dX3_line_182 (by decide) (by omega) (by omega) (fun cq59 => ?_) (fun cq59 => ?_)
                          · refine lv_aload_n hx hb dX3_line_254 rfl (lv_at hl 7 rfl) ?_
                            refine lv_iload_n hx hb dX3_line_255 rfl (lv_at hl 6 rfl) ?_
                            refine lv_iconst (v := iI (2)) hx hb dX3_line_256 rfl ?_
                            refine lx_iadd (a := i) (b := 2) hx hb dX3_line_257 ?_
                            refine va_put (D := (dC, dI)) (ci := 3) (v := .int (iI (i + 2))) (ty := .int) (C := "RequestCutterModel") (T := TX3) (N := 11) hx hb hts (fun w h => List.mem_cons_of_mem _ (inX3 w h)) tyX3 tyX3_ok nmX3 hown hK hP hD hS 0 rfl rfl 10 (by decide) (hts _ (List.mem_cons_of_mem _ tw_276)) (fun _ h9 => h9) rfl (by decide +kernel) rfl rfl (Nat.le_of_ble_eq_true rfl) dX3_line_258 (fun H locs hP hD hS => ?_)
                            have hP : va_P (dC, dI) vwCl [(m0, .inr (3, [.ref mt, .ref mi, .ref mk, .ref mf, .ref ml, .int (iI ((tc : Int))), .int (iI ((n : Int))), .int (iI ((w : Int))), .int (iI ((ks : Int))), .int (iI (ft)), .int (iI (i + 2))])), (mi, .inl (cB, 65536, .inl (f)))] H := hP
                            have hD : va_D A [(m0, .inr (3, [.ref mt, .ref mi, .ref mk, .ref mf, .ref ml, .int (iI ((tc : Int))), .int (iI ((n : Int))), .int (iI ((w : Int))), .int (iI ((ks : Int))), .int (iI (ft)), .int (iI (i + 2))])), (mi, .inl (cB, 65536, .inl (f)))] := hD
                            refine lv_iload hx hb dX3_line_261 (lv_at hl 2 rfl) ?_
                            refine lx_if_ne (a := g) (tgt := 271) hx hb dX3_line_263 (by decide) (by omega) (fun cq60 => ?_) (fun cq60 => ?_)
                            · refine lv_iload hx hb dX3_line_271 (lv_at hl 4 rfl) ?_
                              refine lx_if_eq (a := 1) (tgt := 282) hx hb dX3_line_273 (by decide) (by omega) (fun cq61 => ?_) (fun cq61 => ?_)
                              · exact absurd cq61 (by omega)
                              · refine lv_iload hx hb dX3_line_276 (lv_at hl 1 rfl) ?_
                                refine lx_ineg (a := v) hx hb dX3_line_278 ?_
                                refine lv_goto (tgt := 284) hx hb dX3_line_279 (by decide) ?_
                                have hN : (zNum (bA f n) (pa + 1) i).getD (-1000001) = -(v) := by (rcases hg with ⟨e0, e⟩ | ⟨e0, e⟩); rw [e]; rfl; omega
                                exact W.iret (v := iI (-(v))) hx hb hr (fun t ht hW => ⟨⟨iI (-(v)), (i + 2), rfl, ⟨by rw [mL_2 hStp (by omega), hN], by rw [mL_2 hStp (by omega)]⟩, by rw [ht]; exact hP, va_K.moved hW.alike hK, hD⟩, hS.F ht⟩) hS.2.2 dX3_line_284
                            · refine lx_ldc (z := -1000001) (v := -1000001) hx hb hown (hts _ (List.mem_cons_of_mem _ tw_336)) (by decide) dX3_line_266 ?_
                              refine lv_goto (tgt := 284) hx hb dX3_line_268 (by decide) ?_
                              have hN : (zNum (bA f n) (pa + 1) i).getD (-1000001) = -1000001 := by (rcases hg with ⟨e0, e⟩ | ⟨e0, e⟩); omega; rw [e]; rfl
                              exact W.iret (v := iI (-1000001)) hx hb hr (fun t ht hW => ⟨⟨iI (-1000001), (i + 2), rfl, ⟨by rw [mL_2 hStp (by omega), hN], by rw [mL_2 hStp (by omega)]⟩, by rw [ht]; exact hP, va_K.moved hW.alike hK, hD⟩, hS.F ht⟩) hS.2.2 dX3_line_284
                          · exact absurd cq59 (by omega)
                        | succ k2 ih2 =>
                          intro j v g ls hk2 hj hg hl
                          refine lv_iload hx hb dX3_line_179 (lv_at hl 0 rfl) ?_
                          refine lv_iload_n hx hb dX3_line_181 rfl (lv_at hl 6 rfl) ?_
                          refine lx_icmp_ge (a := j) (b := i) (tgt := 254) hx hb dX3_line_182 (by decide) (by omega) (by omega) (fun cq62 => ?_) (fun cq62 => ?_)
                          · exact absurd cq62 (by omega)
                          · refine lv_iload hx hb dX3_line_185 (lv_at hl 2 rfl) ?_
                            refine lx_if_eq (a := g) (tgt := 218) hx hb dX3_line_187 (by decide) (by omega) (fun cq63 => ?_) (fun cq63 => ?_)
                            · refine lv_iconst (v := iI (0)) hx hb dX3_line_218 rfl ?_
                              refine lv_istore (lv' := [(6, .int (iI (0))), (7, .int (iI (j))), (5, .int (iI (v))), (3, .int (iI ((pa + 1) + 1))), (4, .int (iI (1))), (2, .int (iI (1))), (1, .int (iI (i))), (0, .ref m0)]) hx hb dX3_line_219 hl (by decide) rfl (fun ls hl => ?_)
                              refine lv_iload hx hb dX3_line_221 (lv_at hl 0 rfl) ?_
                              refine lx_if_eq (a := 0) (tgt := 245) hx hb dX3_line_223 (by decide) (by omega) (fun cq64 => ?_) (fun cq64 => ?_)
                              · refine lv_iconst (v := iI (0)) hx hb dX3_line_245 rfl ?_
                                refine lv_istore (lv' := [(5, .int (iI (0))), (6, .int (iI (0))), (7, .int (iI (j))), (3, .int (iI ((pa + 1) + 1))), (4, .int (iI (1))), (2, .int (iI (1))), (1, .int (iI (i))), (0, .ref m0)]) hx hb dX3_line_246 hl (by decide) rfl (fun ls hl => ?_)
                                refine lv_iinc (v := iI (j + 1)) (lv' := [(7, .int (iI (j + 1))), (5, .int (iI (0))), (6, .int (iI (0))), (3, .int (iI ((pa + 1) + 1))), (4, .int (iI (1))), (2, .int (iI (1))), (1, .int (iI (i))), (0, .ref m0)]) hx hb dX3_line_248 hl (k := 2) rfl (iI_add _ _) (by decide) rfl (fun ls hl => ?_)
                                refine lv_goto (tgt := 179) hx hb dX3_line_251 (by decide) ?_
                                exact ih2 (j + 1) (0) (0) ls (by omega) (by omega) (Or.inr ⟨rfl, by (rcases hg with ⟨e0, e⟩ | ⟨e0, e⟩); (first | omega | (rw [e, zDig_b (by omega)]; rfl)); exact e⟩) (lv_sub hl [0, 1, 2, 3, 4, 5, 6, 7] rfl)
                              · exact absurd cq64 (by omega)
                            · refine lv_aload_n hx hb dX3_line_190 rfl (lv_at hl 7 rfl) ?_
                              refine va_get (D := (dC, dI)) (ci := 3) (v := .ref mi) (C := "RequestCutterModel") (T := TX3) (N := 11) hx hb hts (fun w h => List.mem_cons_of_mem _ (inX3 w h)) hown hK hP 0 rfl rfl 1 (by decide) (hts _ (List.mem_cons_of_mem _ tw_267)) (fun _ h9 => h9) rfl dX3_line_191 ?_
                              refine lv_iload hx hb dX3_line_194 (lv_at hl 0 rfl) ?_
                              refine va_bald hx hb hK hP 1 0 rfl rfl (iI_in (by omega)) dX3_line_196 ?_
                              refine lx_top (x2 := (f) ((j).toNat)) (congrArg (f) (iI_cl (a := j) (by omega))) ?_
                              refine lx_top (x2 := iI (((f) ((j).toNat)).toInt)) (Int32.ofInt_toInt _).symm ?_
                              have g_m := mA hfit n (j) (by omega)
                              refine lv_bipush (v := iI (48)) hx hb dX3_line_197 (by decide) ?_
                              refine lx_icmp_lt (a := ((f) ((j).toNat)).toInt) (b := 48) (tgt := 218) hx hb dX3_line_199 (by decide) (by omega) (by omega) (fun cq65 => ?_) (fun cq65 => ?_)
                              · refine lv_iconst (v := iI (0)) hx hb dX3_line_218 rfl ?_
                                refine lv_istore (lv' := [(6, .int (iI (0))), (7, .int (iI (j))), (5, .int (iI (v))), (3, .int (iI ((pa + 1) + 1))), (4, .int (iI (1))), (2, .int (iI (1))), (1, .int (iI (i))), (0, .ref m0)]) hx hb dX3_line_219 hl (by decide) rfl (fun ls hl => ?_)
                                refine lv_iload hx hb dX3_line_221 (lv_at hl 0 rfl) ?_
                                refine lx_if_eq (a := 0) (tgt := 245) hx hb dX3_line_223 (by decide) (by omega) (fun cq66 => ?_) (fun cq66 => ?_)
                                · refine lv_iconst (v := iI (0)) hx hb dX3_line_245 rfl ?_
                                  refine lv_istore (lv' := [(5, .int (iI (0))), (6, .int (iI (0))), (7, .int (iI (j))), (3, .int (iI ((pa + 1) + 1))), (4, .int (iI (1))), (2, .int (iI (1))), (1, .int (iI (i))), (0, .ref m0)]) hx hb dX3_line_246 hl (by decide) rfl (fun ls hl => ?_)
                                  refine lv_iinc (v := iI (j + 1)) (lv' := [(7, .int (iI (j + 1))), (5, .int (iI (0))), (6, .int (iI (0))), (3, .int (iI ((pa + 1) + 1))), (4, .int (iI (1))), (2, .int (iI (1))), (1, .int (iI (i))), (0, .ref m0)]) hx hb dX3_line_248 hl (k := 2) rfl (iI_add _ _) (by decide) rfl (fun ls hl => ?_)
                                  refine lv_goto (tgt := 179) hx hb dX3_line_251 (by decide) ?_
                                  exact ih2 (j + 1) (0) (0) ls (by omega) (by omega) (Or.inr ⟨rfl, by (rcases hg with ⟨e0, e⟩ | ⟨e0, e⟩); (first | omega | (rw [e, zDig_b (by omega)]; rfl)); exact e⟩) (lv_sub hl [0, 1, 2, 3, 4, 5, 6, 7] rfl)
                                · exact absurd cq66 (by omega)
                              · refine lv_aload_n hx hb dX3_line_202 rfl (lv_at hl 7 rfl) ?_
                                refine va_get (D := (dC, dI)) (ci := 3) (v := .ref mi) (C := "RequestCutterModel") (T := TX3) (N := 11) hx hb hts (fun w h => List.mem_cons_of_mem _ (inX3 w h)) hown hK hP 0 rfl rfl 1 (by decide) (hts _ (List.mem_cons_of_mem _ tw_267)) (fun _ h9 => h9) rfl dX3_line_203 ?_
                                refine lv_iload hx hb dX3_line_206 (lv_at hl 0 rfl) ?_
                                refine va_bald hx hb hK hP 1 0 rfl rfl (iI_in (by omega)) dX3_line_208 ?_
                                refine lx_top (x2 := (f) ((j).toNat)) (congrArg (f) (iI_cl (a := j) (by omega))) ?_
                                refine lx_top (x2 := iI (((f) ((j).toNat)).toInt)) (Int32.ofInt_toInt _).symm ?_
                                have g_m := mA hfit n (j) (by omega)
                                refine lv_bipush (v := iI (57)) hx hb dX3_line_209 (by decide) ?_
                                refine lx_icmp_gt (a := ((f) ((j).toNat)).toInt) (b := 57) (tgt := 218) hx hb dX3_line_211 (by decide) (by omega) (by omega) (fun cq67 => ?_) (fun cq67 => ?_)
                                · refine lv_iconst (v := iI (0)) hx hb dX3_line_218 rfl ?_
                                  refine lv_istore (lv' := [(6, .int (iI (0))), (7, .int (iI (j))), (5, .int (iI (v))), (3, .int (iI ((pa + 1) + 1))), (4, .int (iI (1))), (2, .int (iI (1))), (1, .int (iI (i))), (0, .ref m0)]) hx hb dX3_line_219 hl (by decide) rfl (fun ls hl => ?_)
                                  refine lv_iload hx hb dX3_line_221 (lv_at hl 0 rfl) ?_
                                  refine lx_if_eq (a := 0) (tgt := 245) hx hb dX3_line_223 (by decide) (by omega) (fun cq68 => ?_) (fun cq68 => ?_)
                                  · refine lv_iconst (v := iI (0)) hx hb dX3_line_245 rfl ?_
                                    refine lv_istore (lv' := [(5, .int (iI (0))), (6, .int (iI (0))), (7, .int (iI (j))), (3, .int (iI ((pa + 1) + 1))), (4, .int (iI (1))), (2, .int (iI (1))), (1, .int (iI (i))), (0, .ref m0)]) hx hb dX3_line_246 hl (by decide) rfl (fun ls hl => ?_)
                                    refine lv_iinc (v := iI (j + 1)) (lv' := [(7, .int (iI (j + 1))), (5, .int (iI (0))), (6, .int (iI (0))), (3, .int (iI ((pa + 1) + 1))), (4, .int (iI (1))), (2, .int (iI (1))), (1, .int (iI (i))), (0, .ref m0)]) hx hb dX3_line_248 hl (k := 2) rfl (iI_add _ _) (by decide) rfl (fun ls hl => ?_)
                                    refine lv_goto (tgt := 179) hx hb dX3_line_251 (by decide) ?_
                                    exact ih2 (j + 1) (0) (0) ls (by omega) (by omega) (Or.inr ⟨rfl, by (rcases hg with ⟨e0, e⟩ | ⟨e0, e⟩); (first | omega | (rw [e, zDig_b (by omega)]; rfl)); exact e⟩) (lv_sub hl [0, 1, 2, 3, 4, 5, 6, 7] rfl)
                                  · exact absurd cq68 (by omega)
                                · refine lv_iconst (v := iI (1)) hx hb dX3_line_214 rfl ?_
                                  refine lv_goto (tgt := 219) hx hb dX3_line_215 (by decide) ?_
                                  refine lv_istore (lv' := [(6, .int (iI (1))), (7, .int (iI (j))), (5, .int (iI (v))), (3, .int (iI ((pa + 1) + 1))), (4, .int (iI (1))), (2, .int (iI (1))), (1, .int (iI (i))), (0, .ref m0)]) hx hb dX3_line_219 hl (by decide) rfl (fun ls hl => ?_)
                                  refine lv_iload hx hb dX3_line_221 (lv_at hl 0 rfl) ?_
                                  refine lx_if_eq (a := 1) (tgt := 245) hx hb dX3_line_223 (by decide) (by omega) (fun cq69 => ?_) (fun cq69 => ?_)
                                  · exact absurd cq69 (by omega)
                                  · refine lv_bipush (v := iI (10)) hx hb dX3_line_226 (by decide) ?_
                                    refine lv_iload hx hb dX3_line_228 (lv_at hl 2 rfl) ?_
                                    refine lx_imul (a := 10) (b := v) hx hb dX3_line_230 ?_
                                    refine lv_aload_n hx hb dX3_line_231 rfl (lv_at hl 7 rfl) ?_
                                    refine va_get (D := (dC, dI)) (ci := 3) (v := .ref mi) (C := "RequestCutterModel") (T := TX3) (N := 11) hx hb hts (fun w h => List.mem_cons_of_mem _ (inX3 w h)) hown hK hP 0 rfl rfl 1 (by decide) (hts _ (List.mem_cons_of_mem _ tw_267)) (fun _ h9 => h9) rfl dX3_line_232 ?_
                                    refine lv_iload hx hb dX3_line_235 (lv_at hl 1 rfl) ?_
                                    refine va_bald hx hb hK hP 1 0 rfl rfl (iI_in (by omega)) dX3_line_237 ?_
                                    refine lx_top (x2 := (f) ((j).toNat)) (congrArg (f) (iI_cl (a := j) (by omega))) ?_
                                    refine lx_top (x2 := iI (((f) ((j).toNat)).toInt)) (Int32.ofInt_toInt _).symm ?_
                                    have g_m := mA hfit n (j) (by omega)
                                    refine lx_iadd (a := 10 * v) (b := ((f) ((j).toNat)).toInt) hx hb dX3_line_238 ?_
                                    refine lv_bipush (v := iI (48)) hx hb dX3_line_239 (by decide) ?_
                                    refine lx_isub (a := (10 * v) + (((f) ((j).toNat)).toInt)) (b := 48) hx hb dX3_line_241 ?_
                                    refine lv_goto (tgt := 246) hx hb dX3_line_242 (by decide) ?_
                                    refine lv_istore (lv' := [(5, .int (iI (((10 * v) + (((f) ((j).toNat)).toInt)) - 48))), (6, .int (iI (1))), (7, .int (iI (j))), (3, .int (iI ((pa + 1) + 1))), (4, .int (iI (1))), (2, .int (iI (1))), (1, .int (iI (i))), (0, .ref m0)]) hx hb dX3_line_246 hl (by decide) rfl (fun ls hl => ?_)
                                    refine lv_iinc (v := iI (j + 1)) (lv' := [(7, .int (iI (j + 1))), (5, .int (iI (((10 * v) + (((f) ((j).toNat)).toInt)) - 48))), (6, .int (iI (1))), (3, .int (iI ((pa + 1) + 1))), (4, .int (iI (1))), (2, .int (iI (1))), (1, .int (iI (i))), (0, .ref m0)]) hx hb dX3_line_248 hl (k := 2) rfl (iI_add _ _) (by decide) rfl (fun ls hl => ?_)
                                    refine lv_goto (tgt := 179) hx hb dX3_line_251 (by decide) ?_
                                    exact ih2 (j + 1) (((10 * v) + (((f) ((j).toNat)).toInt)) - 48) (1) ls (by omega) (by omega) (Or.inl ⟨rfl, by rcases hg with ⟨e0, e⟩ | ⟨e0, e⟩; rw [e, zDig_s (((10 * v) + (((f) ((j).toNat)).toInt)) - 48) (by omega) (by omega)]; omega⟩) (lv_sub hl [0, 1, 2, 3, 4, 5, 6, 7] rfl)
                      · refine lv_iload_n hx hb dX3_line_161 rfl (lv_at hl 4 rfl) ?_
                        refine lv_iload_n hx hb dX3_line_162 rfl (lv_at hl 1 rfl) ?_
                        refine lv_bipush (v := iI (6)) hx hb dX3_line_163 (by decide) ?_
                        refine lx_iadd (a := (pa + 1) + 1) (b := 6) hx hb dX3_line_165 ?_
                        refine lx_icmp_gt (a := i) (b := ((pa + 1) + 1) + 6) (tgt := 173) hx hb dX3_line_166 (by decide) (by omega) (by omega) (fun cq70 => ?_) (fun cq70 => ?_)
                        · refine lv_iconst (v := iI (0)) hx hb dX3_line_173 rfl ?_
                          refine lv_istore (lv' := [(6, .int (iI (0))), (5, .int (iI (0))), (3, .int (iI ((pa + 1) + 1))), (4, .int (iI (1))), (2, .int (iI (1))), (1, .int (iI (i))), (0, .ref m0)]) hx hb dX3_line_174 hl (by decide) rfl (fun ls hl => ?_)
                          refine lv_iload_n hx hb dX3_line_176 rfl (lv_at hl 2 rfl) ?_
                          refine lv_istore (lv' := [(7, .int (iI ((pa + 1) + 1))), (6, .int (iI (0))), (5, .int (iI (0))), (3, .int (iI ((pa + 1) + 1))), (4, .int (iI (1))), (2, .int (iI (1))), (1, .int (iI (i))), (0, .ref m0)]) hx hb dX3_line_177 hl (by decide) rfl (fun ls hl => ?_)
                          refine (?_ : ∀ (k2 : Nat) (j : Int) (v : Int) (g : Int) (ls : Array Slot), (i - j ≤ k2 ∧ (0 < k2 → j + k2 = i)) → (pa + 1 ≤ j ∧ j ≤ pa + 20) → ((g = 1 ∧ zNum (bA f n) (pa + 1) i = (zDig (bA f n) k2 j v).map (fun x => -x)) ∨ (g = 0 ∧ zNum (bA f n) (pa + 1) i = none)) → lv_has ls 8 [(7, .int (iI (j))), (5, .int (iI (v))), (6, .int (iI (g))), (3, .int (iI ((pa + 1) + 1))), (4, .int (iI (1))), (2, .int (iI (1))), (1, .int (iI (i))), (0, .ref m0)] → W p l e _ s m _ below meth c _ _ _ _ _ (F0 m 179 ls [])) ((i - ((pa + 1) + 1)).toNat) ((pa + 1) + 1) (0) (0) ls (by omega) (by omega) (Or.inr ⟨rfl, zNum_0 (by rw [if_pos (by omega)]; omega)⟩) (lv_sub hl [0, 2, 1, 3, 4, 5, 6, 7] rfl)
                          intro k2
                          induction k2 with
                          | zero =>
                            intro j v g ls hk2 hj hg hl
                            refine lv_iload hx hb dX3_line_179 (lv_at hl 0 rfl) ?_
                            refine lv_iload_n hx hb dX3_line_181 rfl (lv_at hl 6 rfl) ?_
                            refine lx_icmp_ge (a := j) (b := i) (tgt := 254) hx hb dX3_line_182 (by decide) (by omega) (by omega) (fun cq71 => ?_) (fun cq71 => ?_)
                            · refine lv_aload_n hx hb dX3_line_254 rfl (lv_at hl 7 rfl) ?_
                              refine lv_iload_n hx hb dX3_line_255 rfl (lv_at hl 6 rfl) ?_
                              refine lv_iconst (v := iI (2)) hx hb dX3_line_256 rfl ?_
                              refine lx_iadd (a := i) (b := 2) hx hb dX3_line_257 ?_
                              refine va_put (D := (dC, dI)) (ci := 3) (v := .int (iI (i + 2))) (ty := .int) (C := "RequestCutterModel") (T := TX3) (N := 11) hx hb hts (fun w h => List.mem_cons_of_mem _ (inX3 w h)) tyX3 tyX3_ok nmX3 hown hK hP hD hS 0 rfl rfl 10 (by decide) (hts _ (List.mem_cons_of_mem _ tw_276)) (fun _ h9 => h9) rfl (by decide +kernel) rfl rfl (Nat.le_of_ble_eq_true rfl) dX3_line_258 (fun H locs hP hD hS => ?_)
                              have hP : va_P (dC, dI) vwCl [(m0, .inr (3, [.ref mt, .ref mi, .ref mk, .ref mf, .ref ml, .int (iI ((tc : Int))), .int (iI ((n : Int))), .int (iI ((w : Int))), .int (iI ((ks : Int))), .int (iI (ft)), .int (iI (i + 2))])), (mi, .inl (cB, 65536, .inl (f)))] H := hP
                              have hD : va_D A [(m0, .inr (3, [.ref mt, .ref mi, .ref mk, .ref mf, .ref ml, .int (iI ((tc : Int))), .int (iI ((n : Int))), .int (iI ((w : Int))), .int (iI ((ks : Int))), .int (iI (ft)), .int (iI (i + 2))])), (mi, .inl (cB, 65536, .inl (f)))] := hD
                              refine lv_iload hx hb dX3_line_261 (lv_at hl 2 rfl) ?_
                              refine lx_if_ne (a := g) (tgt := 271) hx hb dX3_line_263 (by decide) (by omega) (fun cq72 => ?_) (fun cq72 => ?_)
                              · refine lv_iload hx hb dX3_line_271 (lv_at hl 4 rfl) ?_
                                refine lx_if_eq (a := 1) (tgt := 282) hx hb dX3_line_273 (by decide) (by omega) (fun cq73 => ?_) (fun cq73 => ?_)
                                · exact absurd cq73 (by omega)
                                · refine lv_iload hx hb dX3_line_276 (lv_at hl 1 rfl) ?_
                                  refine lx_ineg (a := v) hx hb dX3_line_278 ?_
                                  refine lv_goto (tgt := 284) hx hb dX3_line_279 (by decide) ?_
                                  have hN : (zNum (bA f n) (pa + 1) i).getD (-1000001) = -(v) := by (rcases hg with ⟨e0, e⟩ | ⟨e0, e⟩); rw [e]; rfl; omega
                                  exact W.iret (v := iI (-(v))) hx hb hr (fun t ht hW => ⟨⟨iI (-(v)), (i + 2), rfl, ⟨by rw [mL_2 hStp (by omega), hN], by rw [mL_2 hStp (by omega)]⟩, by rw [ht]; exact hP, va_K.moved hW.alike hK, hD⟩, hS.F ht⟩) hS.2.2 dX3_line_284
                              · refine lx_ldc (z := -1000001) (v := -1000001) hx hb hown (hts _ (List.mem_cons_of_mem _ tw_336)) (by decide) dX3_line_266 ?_
                                refine lv_goto (tgt := 284) hx hb dX3_line_268 (by decide) ?_
                                have hN : (zNum (bA f n) (pa + 1) i).getD (-1000001) = -1000001 := by (rcases hg with ⟨e0, e⟩ | ⟨e0, e⟩); omega; rw [e]; rfl
                                exact W.iret (v := iI (-1000001)) hx hb hr (fun t ht hW => ⟨⟨iI (-1000001), (i + 2), rfl, ⟨by rw [mL_2 hStp (by omega), hN], by rw [mL_2 hStp (by omega)]⟩, by rw [ht]; exact hP, va_K.moved hW.alike hK, hD⟩, hS.F ht⟩) hS.2.2 dX3_line_284
                            · exact absurd cq71 (by omega)
                          | succ k2 ih2 =>
                            intro j v g ls hk2 hj hg hl
                            refine lv_iload hx hb dX3_line_179 (lv_at hl 0 rfl) ?_
                            refine lv_iload_n hx hb dX3_line_181 rfl (lv_at hl 6 rfl) ?_
                            refine lx_icmp_ge (a := j) (b := i) (tgt := 254) hx hb dX3_line_182 (by decide) (by omega) (by omega) (fun cq74 => ?_) (fun cq74 => ?_)
                            · exact absurd cq74 (by omega)
                            · refine lv_iload hx hb dX3_line_185 (lv_at hl 2 rfl) ?_
                              refine lx_if_eq (a := g) (tgt := 218) hx hb dX3_line_187 (by decide) (by omega) (fun cq75 => ?_) (fun cq75 => ?_)
                              · refine lv_iconst (v := iI (0)) hx hb dX3_line_218 rfl ?_
                                refine lv_istore (lv' := [(6, .int (iI (0))), (7, .int (iI (j))), (5, .int (iI (v))), (3, .int (iI ((pa + 1) + 1))), (4, .int (iI (1))), (2, .int (iI (1))), (1, .int (iI (i))), (0, .ref m0)]) hx hb dX3_line_219 hl (by decide) rfl (fun ls hl => ?_)
                                refine lv_iload hx hb dX3_line_221 (lv_at hl 0 rfl) ?_
                                refine lx_if_eq (a := 0) (tgt := 245) hx hb dX3_line_223 (by decide) (by omega) (fun cq76 => ?_) (fun cq76 => ?_)
                                · refine lv_iconst (v := iI (0)) hx hb dX3_line_245 rfl ?_
                                  refine lv_istore (lv' := [(5, .int (iI (0))), (6, .int (iI (0))), (7, .int (iI (j))), (3, .int (iI ((pa + 1) + 1))), (4, .int (iI (1))), (2, .int (iI (1))), (1, .int (iI (i))), (0, .ref m0)]) hx hb dX3_line_246 hl (by decide) rfl (fun ls hl => ?_)
                                  refine lv_iinc (v := iI (j + 1)) (lv' := [(7, .int (iI (j + 1))), (5, .int (iI (0))), (6, .int (iI (0))), (3, .int (iI ((pa + 1) + 1))), (4, .int (iI (1))), (2, .int (iI (1))), (1, .int (iI (i))), (0, .ref m0)]) hx hb dX3_line_248 hl (k := 2) rfl (iI_add _ _) (by decide) rfl (fun ls hl => ?_)
                                  refine lv_goto (tgt := 179) hx hb dX3_line_251 (by decide) ?_
                                  exact ih2 (j + 1) (0) (0) ls (by omega) (by omega) (Or.inr ⟨rfl, by (rcases hg with ⟨e0, e⟩ | ⟨e0, e⟩); (first | omega | (rw [e, zDig_b (by omega)]; rfl)); exact e⟩) (lv_sub hl [0, 1, 2, 3, 4, 5, 6, 7] rfl)
                                · exact absurd cq76 (by omega)
                              · refine lv_aload_n hx hb dX3_line_190 rfl (lv_at hl 7 rfl) ?_
                                refine va_get (D := (dC, dI)) (ci := 3) (v := .ref mi) (C := "RequestCutterModel") (T := TX3) (N := 11) hx hb hts (fun w h => List.mem_cons_of_mem _ (inX3 w h)) hown hK hP 0 rfl rfl 1 (by decide) (hts _ (List.mem_cons_of_mem _ tw_267)) (fun _ h9 => h9) rfl dX3_line_191 ?_
                                refine lv_iload hx hb dX3_line_194 (lv_at hl 0 rfl) ?_
                                refine va_bald hx hb hK hP 1 0 rfl rfl (iI_in (by omega)) dX3_line_196 ?_
                                refine lx_top (x2 := (f) ((j).toNat)) (congrArg (f) (iI_cl (a := j) (by omega))) ?_
                                refine lx_top (x2 := iI (((f) ((j).toNat)).toInt)) (Int32.ofInt_toInt _).symm ?_
                                have g_m := mA hfit n (j) (by omega)
                                refine lv_bipush (v := iI (48)) hx hb dX3_line_197 (by decide) ?_
                                refine lx_icmp_lt (a := ((f) ((j).toNat)).toInt) (b := 48) (tgt := 218) hx hb dX3_line_199 (by decide) (by omega) (by omega) (fun cq77 => ?_) (fun cq77 => ?_)
                                · refine lv_iconst (v := iI (0)) hx hb dX3_line_218 rfl ?_
                                  refine lv_istore (lv' := [(6, .int (iI (0))), (7, .int (iI (j))), (5, .int (iI (v))), (3, .int (iI ((pa + 1) + 1))), (4, .int (iI (1))), (2, .int (iI (1))), (1, .int (iI (i))), (0, .ref m0)]) hx hb dX3_line_219 hl (by decide) rfl (fun ls hl => ?_)
                                  refine lv_iload hx hb dX3_line_221 (lv_at hl 0 rfl) ?_
                                  refine lx_if_eq (a := 0) (tgt := 245) hx hb dX3_line_223 (by decide) (by omega) (fun cq78 => ?_) (fun cq78 => ?_)
                                  · refine lv_iconst (v := iI (0)) hx hb dX3_line_245 rfl ?_
                                    refine lv_istore (lv' := [(5, .int (iI (0))), (6, .int (iI (0))), (7, .int (iI (j))), (3, .int (iI ((pa + 1) + 1))), (4, .int (iI (1))), (2, .int (iI (1))), (1, .int (iI (i))), (0, .ref m0)]) hx hb dX3_line_246 hl (by decide) rfl (fun ls hl => ?_)
                                    refine lv_iinc (v := iI (j + 1)) (lv' := [(7, .int (iI (j + 1))), (5, .int (iI (0))), (6, .int (iI (0))), (3, .int (iI ((pa + 1) + 1))), (4, .int (iI (1))), (2, .int (iI (1))), (1, .int (iI (i))), (0, .ref m0)]) hx hb dX3_line_248 hl (k := 2) rfl (iI_add _ _) (by decide) rfl (fun ls hl => ?_)
                                    refine lv_goto (tgt := 179) hx hb dX3_line_251 (by decide) ?_
                                    exact ih2 (j + 1) (0) (0) ls (by omega) (by omega) (Or.inr ⟨rfl, by (rcases hg with ⟨e0, e⟩ | ⟨e0, e⟩); (first | omega | (rw [e, zDig_b (by omega)]; rfl)); exact e⟩) (lv_sub hl [0, 1, 2, 3, 4, 5, 6, 7] rfl)
                                  · exact absurd cq78 (by omega)
                                · refine lv_aload_n hx hb dX3_line_202 rfl (lv_at hl 7 rfl) ?_
                                  refine va_get (D := (dC, dI)) (ci := 3) (v := .ref mi) (C := "RequestCutterModel") (T := TX3) (N := 11) hx hb hts (fun w h => List.mem_cons_of_mem _ (inX3 w h)) hown hK hP 0 rfl rfl 1 (by decide) (hts _ (List.mem_cons_of_mem _ tw_267)) (fun _ h9 => h9) rfl dX3_line_203 ?_
                                  refine lv_iload hx hb dX3_line_206 (lv_at hl 0 rfl) ?_
                                  refine va_bald hx hb hK hP 1 0 rfl rfl (iI_in (by omega)) dX3_line_208 ?_
                                  refine lx_top (x2 := (f) ((j).toNat)) (congrArg (f) (iI_cl (a := j) (by omega))) ?_
                                  refine lx_top (x2 := iI (((f) ((j).toNat)).toInt)) (Int32.ofInt_toInt _).symm ?_
                                  have g_m := mA hfit n (j) (by omega)
                                  refine lv_bipush (v := iI (57)) hx hb dX3_line_209 (by decide) ?_
                                  refine lx_icmp_gt (a := ((f) ((j).toNat)).toInt) (b := 57) (tgt := 218) hx hb dX3_line_211 (by decide) (by omega) (by omega) (fun cq79 => ?_) (fun cq79 => ?_)
                                  · refine lv_iconst (v := iI (0)) hx hb dX3_line_218 rfl ?_
                                    refine lv_istore (lv' := [(6, .int (iI (0))), (7, .int (iI (j))), (5, .int (iI (v))), (3, .int (iI ((pa + 1) + 1))), (4, .int (iI (1))), (2, .int (iI (1))), (1, .int (iI (i))), (0, .ref m0)]) hx hb dX3_line_219 hl (by decide) rfl (fun ls hl => ?_)
                                    refine lv_iload hx hb dX3_line_221 (lv_at hl 0 rfl) ?_
                                    refine lx_if_eq (a := 0) (tgt := 245) hx hb dX3_line_223 (by decide) (by omega) (fun cq80 => ?_) (fun cq80 => ?_)
                                    · refine lv_iconst (v := iI (0)) hx hb dX3_line_245 rfl ?_
                                      refine lv_istore (lv' := [(5, .int (iI (0))), (6, .int (iI (0))), (7, .int (iI (j))), (3, .int (iI ((pa + 1) + 1))), (4, .int (iI (1))), (2, .int (iI (1))), (1, .int (iI (i))), (0, .ref m0)]) hx hb dX3_line_246 hl (by decide) rfl (fun ls hl => ?_)
                                      refine lv_iinc (v := iI (j + 1)) (lv' := [(7, .int (iI (j + 1))), (5, .int (iI (0))), (6, .int (iI (0))), (3, .int (iI ((pa + 1) + 1))), (4, .int (iI (1))), (2, .int (iI (1))), (1, .int (iI (i))), (0, .ref m0)]) hx hb dX3_line_248 hl (k := 2) rfl (iI_add _ _) (by decide) rfl (fun ls hl => ?_)
                                      refine lv_goto (tgt := 179) hx hb dX3_line_251 (by decide) ?_
                                      exact ih2 (j + 1) (0) (0) ls (by omega) (by omega) (Or.inr ⟨rfl, by (rcases hg with ⟨e0, e⟩ | ⟨e0, e⟩); (first | omega | (rw [e, zDig_b (by omega)]; rfl)); exact e⟩) (lv_sub hl [0, 1, 2, 3, 4, 5, 6, 7] rfl)
                                    · exact absurd cq80 (by omega)
                                  · refine lv_iconst (v := iI (1)) hx hb dX3_line_214 rfl ?_
                                    refine lv_goto (tgt := 219) hx hb dX3_line_215 (by decide) ?_
                                    refine lv_istore (lv' := [(6, .int (iI (1))), (7, .int (iI (j))), (5, .int (iI (v))), (3, .int (iI ((pa + 1) + 1))), (4, .int (iI (1))), (2, .int (iI (1))), (1, .int (iI (i))), (0, .ref m0)]) hx hb dX3_line_219 hl (by decide) rfl (fun ls hl => ?_)
                                    refine lv_iload hx hb dX3_line_221 (lv_at hl 0 rfl) ?_
                                    refine lx_if_eq (a := 1) (tgt := 245) hx hb dX3_line_223 (by decide) (by omega) (fun cq81 => ?_) (fun cq81 => ?_)
                                    · exact absurd cq81 (by omega)
                                    · refine lv_bipush (v := iI (10)) hx hb dX3_line_226 (by decide) ?_
                                      refine lv_iload hx hb dX3_line_228 (lv_at hl 2 rfl) ?_
                                      refine lx_imul (a := 10) (b := v) hx hb dX3_line_230 ?_
                                      refine lv_aload_n hx hb dX3_line_231 rfl (lv_at hl 7 rfl) ?_
                                      refine va_get (D := (dC, dI)) (ci := 3) (v := .ref mi) (C := "RequestCutterModel") (T := TX3) (N := 11) hx hb hts (fun w h => List.mem_cons_of_mem _ (inX3 w h)) hown hK hP 0 rfl rfl 1 (by decide) (hts _ (List.mem_cons_of_mem _ tw_267)) (fun _ h9 => h9) rfl dX3_line_232 ?_
                                      refine lv_iload hx hb dX3_line_235 (lv_at hl 1 rfl) ?_
                                      refine va_bald hx hb hK hP 1 0 rfl rfl (iI_in (by omega)) dX3_line_237 ?_
                                      refine lx_top (x2 := (f) ((j).toNat)) (congrArg (f) (iI_cl (a := j) (by omega))) ?_
                                      refine lx_top (x2 := iI (((f) ((j).toNat)).toInt)) (Int32.ofInt_toInt _).symm ?_
                                      have g_m := mA hfit n (j) (by omega)
                                      refine lx_iadd (a := 10 * v) (b := ((f) ((j).toNat)).toInt) hx hb dX3_line_238 ?_
                                      refine lv_bipush (v := iI (48)) hx hb dX3_line_239 (by decide) ?_
                                      refine lx_isub (a := (10 * v) + (((f) ((j).toNat)).toInt)) (b := 48) hx hb dX3_line_241 ?_
                                      refine lv_goto (tgt := 246) hx hb dX3_line_242 (by decide) ?_
                                      refine lv_istore (lv' := [(5, .int (iI (((10 * v) + (((f) ((j).toNat)).toInt)) - 48))), (6, .int (iI (1))), (7, .int (iI (j))), (3, .int (iI ((pa + 1) + 1))), (4, .int (iI (1))), (2, .int (iI (1))), (1, .int (iI (i))), (0, .ref m0)]) hx hb dX3_line_246 hl (by decide) rfl (fun ls hl => ?_)
                                      refine lv_iinc (v := iI (j + 1)) (lv' := [(7, .int (iI (j + 1))), (5, .int (iI (((10 * v) + (((f) ((j).toNat)).toInt)) - 48))), (6, .int (iI (1))), (3, .int (iI ((pa + 1) + 1))), (4, .int (iI (1))), (2, .int (iI (1))), (1, .int (iI (i))), (0, .ref m0)]) hx hb dX3_line_248 hl (k := 2) rfl (iI_add _ _) (by decide) rfl (fun ls hl => ?_)
                                      refine lv_goto (tgt := 179) hx hb dX3_line_251 (by decide) ?_
                                      exact ih2 (j + 1) (((10 * v) + (((f) ((j).toNat)).toInt)) - 48) (1) ls (by omega) (by omega) (Or.inl ⟨rfl, by rcases hg with ⟨e0, e⟩ | ⟨e0, e⟩; rw [e, zDig_s (((10 * v) + (((f) ((j).toNat)).toInt)) - 48) (by omega) (by omega)]; omega⟩) (lv_sub hl [0, 1, 2, 3, 4, 5, 6, 7] rfl)
                        · refine lv_iconst (v := iI (1)) hx hb dX3_line_169 rfl ?_
                          refine lv_goto (tgt := 174) hx hb dX3_line_170 (by decide) ?_
                          refine lv_istore (lv' := [(6, .int (iI (1))), (5, .int (iI (0))), (3, .int (iI ((pa + 1) + 1))), (4, .int (iI (1))), (2, .int (iI (1))), (1, .int (iI (i))), (0, .ref m0)]) hx hb dX3_line_174 hl (by decide) rfl (fun ls hl => ?_)
                          refine lv_iload_n hx hb dX3_line_176 rfl (lv_at hl 2 rfl) ?_
                          refine lv_istore (lv' := [(7, .int (iI ((pa + 1) + 1))), (6, .int (iI (1))), (5, .int (iI (0))), (3, .int (iI ((pa + 1) + 1))), (4, .int (iI (1))), (2, .int (iI (1))), (1, .int (iI (i))), (0, .ref m0)]) hx hb dX3_line_177 hl (by decide) rfl (fun ls hl => ?_)
                          refine (?_ : ∀ (k2 : Nat) (j : Int) (v : Int) (g : Int) (ls : Array Slot), (i - j ≤ k2 ∧ (0 < k2 → j + k2 = i)) → (pa + 1 ≤ j ∧ j ≤ pa + 20) → ((g = 1 ∧ zNum (bA f n) (pa + 1) i = (zDig (bA f n) k2 j v).map (fun x => -x)) ∨ (g = 0 ∧ zNum (bA f n) (pa + 1) i = none)) → lv_has ls 8 [(7, .int (iI (j))), (5, .int (iI (v))), (6, .int (iI (g))), (3, .int (iI ((pa + 1) + 1))), (4, .int (iI (1))), (2, .int (iI (1))), (1, .int (iI (i))), (0, .ref m0)] → W p l e _ s m _ below meth c _ _ _ _ _ (F0 m 179 ls [])) ((i - ((pa + 1) + 1)).toNat) ((pa + 1) + 1) (0) (1) ls (by omega) (by omega) (Or.inl ⟨rfl, zNum_m (by omega) (by omega)⟩) (lv_sub hl [0, 2, 1, 3, 4, 5, 6, 7] rfl)
                          intro k2
                          induction k2 with
                          | zero =>
                            intro j v g ls hk2 hj hg hl
                            refine lv_iload hx hb dX3_line_179 (lv_at hl 0 rfl) ?_
                            refine lv_iload_n hx hb dX3_line_181 rfl (lv_at hl 6 rfl) ?_
                            refine lx_icmp_ge (a := j) (b := i) (tgt := 254) hx hb dX3_line_182 (by decide) (by omega) (by omega) (fun cq82 => ?_) (fun cq82 => ?_)
                            · refine lv_aload_n hx hb dX3_line_254 rfl (lv_at hl 7 rfl) ?_
                              refine lv_iload_n hx hb dX3_line_255 rfl (lv_at hl 6 rfl) ?_
                              refine lv_iconst (v := iI (2)) hx hb dX3_line_256 rfl ?_
                              refine lx_iadd (a := i) (b := 2) hx hb dX3_line_257 ?_
                              refine va_put (D := (dC, dI)) (ci := 3) (v := .int (iI (i + 2))) (ty := .int) (C := "RequestCutterModel") (T := TX3) (N := 11) hx hb hts (fun w h => List.mem_cons_of_mem _ (inX3 w h)) tyX3 tyX3_ok nmX3 hown hK hP hD hS 0 rfl rfl 10 (by decide) (hts _ (List.mem_cons_of_mem _ tw_276)) (fun _ h9 => h9) rfl (by decide +kernel) rfl rfl (Nat.le_of_ble_eq_true rfl) dX3_line_258 (fun H locs hP hD hS => ?_)
                              have hP : va_P (dC, dI) vwCl [(m0, .inr (3, [.ref mt, .ref mi, .ref mk, .ref mf, .ref ml, .int (iI ((tc : Int))), .int (iI ((n : Int))), .int (iI ((w : Int))), .int (iI ((ks : Int))), .int (iI (ft)), .int (iI (i + 2))])), (mi, .inl (cB, 65536, .inl (f)))] H := hP
                              have hD : va_D A [(m0, .inr (3, [.ref mt, .ref mi, .ref mk, .ref mf, .ref ml, .int (iI ((tc : Int))), .int (iI ((n : Int))), .int (iI ((w : Int))), .int (iI ((ks : Int))), .int (iI (ft)), .int (iI (i + 2))])), (mi, .inl (cB, 65536, .inl (f)))] := hD
                              refine lv_iload hx hb dX3_line_261 (lv_at hl 2 rfl) ?_
                              refine lx_if_ne (a := g) (tgt := 271) hx hb dX3_line_263 (by decide) (by omega) (fun cq83 => ?_) (fun cq83 => ?_)
                              · refine lv_iload hx hb dX3_line_271 (lv_at hl 4 rfl) ?_
                                refine lx_if_eq (a := 1) (tgt := 282) hx hb dX3_line_273 (by decide) (by omega) (fun cq84 => ?_) (fun cq84 => ?_)
                                · exact absurd cq84 (by omega)
                                · refine lv_iload hx hb dX3_line_276 (lv_at hl 1 rfl) ?_
                                  refine lx_ineg (a := v) hx hb dX3_line_278 ?_
                                  refine lv_goto (tgt := 284) hx hb dX3_line_279 (by decide) ?_
                                  have hN : (zNum (bA f n) (pa + 1) i).getD (-1000001) = -(v) := by (rcases hg with ⟨e0, e⟩ | ⟨e0, e⟩); rw [e]; rfl; omega
                                  exact W.iret (v := iI (-(v))) hx hb hr (fun t ht hW => ⟨⟨iI (-(v)), (i + 2), rfl, ⟨by rw [mL_2 hStp (by omega), hN], by rw [mL_2 hStp (by omega)]⟩, by rw [ht]; exact hP, va_K.moved hW.alike hK, hD⟩, hS.F ht⟩) hS.2.2 dX3_line_284
                              · refine lx_ldc (z := -1000001) (v := -1000001) hx hb hown (hts _ (List.mem_cons_of_mem _ tw_336)) (by decide) dX3_line_266 ?_
                                refine lv_goto (tgt := 284) hx hb dX3_line_268 (by decide) ?_
                                have hN : (zNum (bA f n) (pa + 1) i).getD (-1000001) = -1000001 := by (rcases hg with ⟨e0, e⟩ | ⟨e0, e⟩); omega; rw [e]; rfl
                                exact W.iret (v := iI (-1000001)) hx hb hr (fun t ht hW => ⟨⟨iI (-1000001), (i + 2), rfl, ⟨by rw [mL_2 hStp (by omega), hN], by rw [mL_2 hStp (by omega)]⟩, by rw [ht]; exact hP, va_K.moved hW.alike hK, hD⟩, hS.F ht⟩) hS.2.2 dX3_line_284
                            · exact absurd cq82 (by omega)
                          | succ k2 ih2 =>
                            intro j v g ls hk2 hj hg hl
                            refine lv_iload hx hb dX3_line_179 (lv_at hl 0 rfl) ?_
                            refine lv_iload_n hx hb dX3_line_181 rfl (lv_at hl 6 rfl) ?_
                            refine lx_icmp_ge (a := j) (b := i) (tgt := 254) hx hb dX3_line_182 (by decide) (by omega) (by omega) (fun cq85 => ?_) (fun cq85 => ?_)
                            · exact absurd cq85 (by omega)
                            · refine lv_iload hx hb dX3_line_185 (lv_at hl 2 rfl) ?_
                              refine lx_if_eq (a := g) (tgt := 218) hx hb dX3_line_187 (by decide) (by omega) (fun cq86 => ?_) (fun cq86 => ?_)
                              · refine lv_iconst (v := iI (0)) hx hb dX3_line_218 rfl ?_
                                refine lv_istore (lv' := [(6, .int (iI (0))), (7, .int (iI (j))), (5, .int (iI (v))), (3, .int (iI ((pa + 1) + 1))), (4, .int (iI (1))), (2, .int (iI (1))), (1, .int (iI (i))), (0, .ref m0)]) hx hb dX3_line_219 hl (by decide) rfl (fun ls hl => ?_)
                                refine lv_iload hx hb dX3_line_221 (lv_at hl 0 rfl) ?_
                                refine lx_if_eq (a := 0) (tgt := 245) hx hb dX3_line_223 (by decide) (by omega) (fun cq87 => ?_) (fun cq87 => ?_)
                                · refine lv_iconst (v := iI (0)) hx hb dX3_line_245 rfl ?_
                                  refine lv_istore (lv' := [(5, .int (iI (0))), (6, .int (iI (0))), (7, .int (iI (j))), (3, .int (iI ((pa + 1) + 1))), (4, .int (iI (1))), (2, .int (iI (1))), (1, .int (iI (i))), (0, .ref m0)]) hx hb dX3_line_246 hl (by decide) rfl (fun ls hl => ?_)
                                  refine lv_iinc (v := iI (j + 1)) (lv' := [(7, .int (iI (j + 1))), (5, .int (iI (0))), (6, .int (iI (0))), (3, .int (iI ((pa + 1) + 1))), (4, .int (iI (1))), (2, .int (iI (1))), (1, .int (iI (i))), (0, .ref m0)]) hx hb dX3_line_248 hl (k := 2) rfl (iI_add _ _) (by decide) rfl (fun ls hl => ?_)
                                  refine lv_goto (tgt := 179) hx hb dX3_line_251 (by decide) ?_
                                  exact ih2 (j + 1) (0) (0) ls (by omega) (by omega) (Or.inr ⟨rfl, by (rcases hg with ⟨e0, e⟩ | ⟨e0, e⟩); (first | omega | (rw [e, zDig_b (by omega)]; rfl)); exact e⟩) (lv_sub hl [0, 1, 2, 3, 4, 5, 6, 7] rfl)
                                · exact absurd cq87 (by omega)
                              · refine lv_aload_n hx hb dX3_line_190 rfl (lv_at hl 7 rfl) ?_
                                refine va_get (D := (dC, dI)) (ci := 3) (v := .ref mi) (C := "RequestCutterModel") (T := TX3) (N := 11) hx hb hts (fun w h => List.mem_cons_of_mem _ (inX3 w h)) hown hK hP 0 rfl rfl 1 (by decide) (hts _ (List.mem_cons_of_mem _ tw_267)) (fun _ h9 => h9) rfl dX3_line_191 ?_
                                refine lv_iload hx hb dX3_line_194 (lv_at hl 0 rfl) ?_
                                refine va_bald hx hb hK hP 1 0 rfl rfl (iI_in (by omega)) dX3_line_196 ?_
                                refine lx_top (x2 := (f) ((j).toNat)) (congrArg (f) (iI_cl (a := j) (by omega))) ?_
                                refine lx_top (x2 := iI (((f) ((j).toNat)).toInt)) (Int32.ofInt_toInt _).symm ?_
                                have g_m := mA hfit n (j) (by omega)
                                refine lv_bipush (v := iI (48)) hx hb dX3_line_197 (by decide) ?_
                                refine lx_icmp_lt (a := ((f) ((j).toNat)).toInt) (b := 48) (tgt := 218) hx hb dX3_line_199 (by decide) (by omega) (by omega) (fun cq88 => ?_) (fun cq88 => ?_)
                                · refine lv_iconst (v := iI (0)) hx hb dX3_line_218 rfl ?_
                                  refine lv_istore (lv' := [(6, .int (iI (0))), (7, .int (iI (j))), (5, .int (iI (v))), (3, .int (iI ((pa + 1) + 1))), (4, .int (iI (1))), (2, .int (iI (1))), (1, .int (iI (i))), (0, .ref m0)]) hx hb dX3_line_219 hl (by decide) rfl (fun ls hl => ?_)
                                  refine lv_iload hx hb dX3_line_221 (lv_at hl 0 rfl) ?_
                                  refine lx_if_eq (a := 0) (tgt := 245) hx hb dX3_line_223 (by decide) (by omega) (fun cq89 => ?_) (fun cq89 => ?_)
                                  · refine lv_iconst (v := iI (0)) hx hb dX3_line_245 rfl ?_
                                    refine lv_istore (lv' := [(5, .int (iI (0))), (6, .int (iI (0))), (7, .int (iI (j))), (3, .int (iI ((pa + 1) + 1))), (4, .int (iI (1))), (2, .int (iI (1))), (1, .int (iI (i))), (0, .ref m0)]) hx hb dX3_line_246 hl (by decide) rfl (fun ls hl => ?_)
                                    refine lv_iinc (v := iI (j + 1)) (lv' := [(7, .int (iI (j + 1))), (5, .int (iI (0))), (6, .int (iI (0))), (3, .int (iI ((pa + 1) + 1))), (4, .int (iI (1))), (2, .int (iI (1))), (1, .int (iI (i))), (0, .ref m0)]) hx hb dX3_line_248 hl (k := 2) rfl (iI_add _ _) (by decide) rfl (fun ls hl => ?_)
                                    refine lv_goto (tgt := 179) hx hb dX3_line_251 (by decide) ?_
                                    exact ih2 (j + 1) (0) (0) ls (by omega) (by omega) (Or.inr ⟨rfl, by (rcases hg with ⟨e0, e⟩ | ⟨e0, e⟩); (first | omega | (rw [e, zDig_b (by omega)]; rfl)); exact e⟩) (lv_sub hl [0, 1, 2, 3, 4, 5, 6, 7] rfl)
                                  · exact absurd cq89 (by omega)
                                · refine lv_aload_n hx hb dX3_line_202 rfl (lv_at hl 7 rfl) ?_
                                  refine va_get (D := (dC, dI)) (ci := 3) (v := .ref mi) (C := "RequestCutterModel") (T := TX3) (N := 11) hx hb hts (fun w h => List.mem_cons_of_mem _ (inX3 w h)) hown hK hP 0 rfl rfl 1 (by decide) (hts _ (List.mem_cons_of_mem _ tw_267)) (fun _ h9 => h9) rfl dX3_line_203 ?_
                                  refine lv_iload hx hb dX3_line_206 (lv_at hl 0 rfl) ?_
                                  refine va_bald hx hb hK hP 1 0 rfl rfl (iI_in (by omega)) dX3_line_208 ?_
                                  refine lx_top (x2 := (f) ((j).toNat)) (congrArg (f) (iI_cl (a := j) (by omega))) ?_
                                  refine lx_top (x2 := iI (((f) ((j).toNat)).toInt)) (Int32.ofInt_toInt _).symm ?_
                                  have g_m := mA hfit n (j) (by omega)
                                  refine lv_bipush (v := iI (57)) hx hb dX3_line_209 (by decide) ?_
                                  refine lx_icmp_gt (a := ((f) ((j).toNat)).toInt) (b := 57) (tgt := 218) hx hb dX3_line_211 (by decide) (by omega) (by omega) (fun cq90 => ?_) (fun cq90 => ?_)
                                  · refine lv_iconst (v := iI (0)) hx hb dX3_line_218 rfl ?_
                                    refine lv_istore (lv' := [(6, .int (iI (0))), (7, .int (iI (j))), (5, .int (iI (v))), (3, .int (iI ((pa + 1) + 1))), (4, .int (iI (1))), (2, .int (iI (1))), (1, .int (iI (i))), (0, .ref m0)]) hx hb dX3_line_219 hl (by decide) rfl (fun ls hl => ?_)
                                    refine lv_iload hx hb dX3_line_221 (lv_at hl 0 rfl) ?_
                                    refine lx_if_eq (a := 0) (tgt := 245) hx hb dX3_line_223 (by decide) (by omega) (fun cq91 => ?_) (fun cq91 => ?_)
                                    · refine lv_iconst (v := iI (0)) hx hb dX3_line_245 rfl ?_
                                      refine lv_istore (lv' := [(5, .int (iI (0))), (6, .int (iI (0))), (7, .int (iI (j))), (3, .int (iI ((pa + 1) + 1))), (4, .int (iI (1))), (2, .int (iI (1))), (1, .int (iI (i))), (0, .ref m0)]) hx hb dX3_line_246 hl (by decide) rfl (fun ls hl => ?_)
                                      refine lv_iinc (v := iI (j + 1)) (lv' := [(7, .int (iI (j + 1))), (5, .int (iI (0))), (6, .int (iI (0))), (3, .int (iI ((pa + 1) + 1))), (4, .int (iI (1))), (2, .int (iI (1))), (1, .int (iI (i))), (0, .ref m0)]) hx hb dX3_line_248 hl (k := 2) rfl (iI_add _ _) (by decide) rfl (fun ls hl => ?_)
                                      refine lv_goto (tgt := 179) hx hb dX3_line_251 (by decide) ?_
                                      exact ih2 (j + 1) (0) (0) ls (by omega) (by omega) (Or.inr ⟨rfl, by (rcases hg with ⟨e0, e⟩ | ⟨e0, e⟩); (first | omega | (rw [e, zDig_b (by omega)]; rfl)); exact e⟩) (lv_sub hl [0, 1, 2, 3, 4, 5, 6, 7] rfl)
                                    · exact absurd cq91 (by omega)
                                  · refine lv_iconst (v := iI (1)) hx hb dX3_line_214 rfl ?_
                                    refine lv_goto (tgt := 219) hx hb dX3_line_215 (by decide) ?_
                                    refine lv_istore (lv' := [(6, .int (iI (1))), (7, .int (iI (j))), (5, .int (iI (v))), (3, .int (iI ((pa + 1) + 1))), (4, .int (iI (1))), (2, .int (iI (1))), (1, .int (iI (i))), (0, .ref m0)]) hx hb dX3_line_219 hl (by decide) rfl (fun ls hl => ?_)
                                    refine lv_iload hx hb dX3_line_221 (lv_at hl 0 rfl) ?_
                                    refine lx_if_eq (a := 1) (tgt := 245) hx hb dX3_line_223 (by decide) (by omega) (fun cq92 => ?_) (fun cq92 => ?_)
                                    · exact absurd cq92 (by omega)
                                    · refine lv_bipush (v := iI (10)) hx hb dX3_line_226 (by decide) ?_
                                      refine lv_iload hx hb dX3_line_228 (lv_at hl 2 rfl) ?_
                                      refine lx_imul (a := 10) (b := v) hx hb dX3_line_230 ?_
                                      refine lv_aload_n hx hb dX3_line_231 rfl (lv_at hl 7 rfl) ?_
                                      refine va_get (D := (dC, dI)) (ci := 3) (v := .ref mi) (C := "RequestCutterModel") (T := TX3) (N := 11) hx hb hts (fun w h => List.mem_cons_of_mem _ (inX3 w h)) hown hK hP 0 rfl rfl 1 (by decide) (hts _ (List.mem_cons_of_mem _ tw_267)) (fun _ h9 => h9) rfl dX3_line_232 ?_
                                      refine lv_iload hx hb dX3_line_235 (lv_at hl 1 rfl) ?_
                                      refine va_bald hx hb hK hP 1 0 rfl rfl (iI_in (by omega)) dX3_line_237 ?_
                                      refine lx_top (x2 := (f) ((j).toNat)) (congrArg (f) (iI_cl (a := j) (by omega))) ?_
                                      refine lx_top (x2 := iI (((f) ((j).toNat)).toInt)) (Int32.ofInt_toInt _).symm ?_
                                      have g_m := mA hfit n (j) (by omega)
                                      refine lx_iadd (a := 10 * v) (b := ((f) ((j).toNat)).toInt) hx hb dX3_line_238 ?_
                                      refine lv_bipush (v := iI (48)) hx hb dX3_line_239 (by decide) ?_
                                      refine lx_isub (a := (10 * v) + (((f) ((j).toNat)).toInt)) (b := 48) hx hb dX3_line_241 ?_
                                      refine lv_goto (tgt := 246) hx hb dX3_line_242 (by decide) ?_
                                      refine lv_istore (lv' := [(5, .int (iI (((10 * v) + (((f) ((j).toNat)).toInt)) - 48))), (6, .int (iI (1))), (7, .int (iI (j))), (3, .int (iI ((pa + 1) + 1))), (4, .int (iI (1))), (2, .int (iI (1))), (1, .int (iI (i))), (0, .ref m0)]) hx hb dX3_line_246 hl (by decide) rfl (fun ls hl => ?_)
                                      refine lv_iinc (v := iI (j + 1)) (lv' := [(7, .int (iI (j + 1))), (5, .int (iI (((10 * v) + (((f) ((j).toNat)).toInt)) - 48))), (6, .int (iI (1))), (3, .int (iI ((pa + 1) + 1))), (4, .int (iI (1))), (2, .int (iI (1))), (1, .int (iI (i))), (0, .ref m0)]) hx hb dX3_line_248 hl (k := 2) rfl (iI_add _ _) (by decide) rfl (fun ls hl => ?_)
                                      refine lv_goto (tgt := 179) hx hb dX3_line_251 (by decide) ?_
                                      exact ih2 (j + 1) (((10 * v) + (((f) ((j).toNat)).toInt)) - 48) (1) ls (by omega) (by omega) (Or.inl ⟨rfl, by rcases hg with ⟨e0, e⟩ | ⟨e0, e⟩; rw [e, zDig_s (((10 * v) + (((f) ((j).toNat)).toInt)) - 48) (by omega) (by omega)]; omega⟩) (lv_sub hl [0, 1, 2, 3, 4, 5, 6, 7] rfl)
                · exact absurd cq19 (by omega)
          · refine lv_iinc (v := iI (i + 1)) (lv' := [(1, .int (iI (i + 1))), (0, .ref m0)]) hx hb dX3_line_54 hl (k := 0) rfl (iI_add _ _) (by decide) rfl (fun ls hl => ?_)
            refine lv_goto (tgt := 7) hx hb dX3_line_57 (by decide) ?_
            exact ih (i + 1) ls (by omega) (by omega) (by rw [← hz]; exact (if_neg (by omega)).symm) (lv_sub hl [0, 1] rfl)
