set_option maxHeartbeats 4000000 in
set_option maxRecDepth 100000 in
/-- scanWord(from) -/
theorem c_X2_scanWord (l : Launch) (dC : Nat → ClassId) (dI : Nat → Nat → Nat) (cB cI : ClassId) (sz : Nat) (h tp ip wd iq lim il n : Nat) (f : Nat → Int32) (lf ln : Int) (hc : n ≤ il) (hn : il ≤ 65536) (hln : -2147483648 ≤ ln ∧ ln ≤ 2147483647) (wb s1 s2 nl cnt : Nat) (sa za : Nat → Int) (hwc : cnt ≤ nl) (hwn : 8 ≤ nl ∧ nl ≤ 1024) (fr : Int) (hfr : 0 ≤ fr ∧ fr ≤ n) (mc ms : Nat) (hroom : cnt < 1024 ∧ nl ≤ cnt → 2 ≤ mc ∧ 2 * min 1024 (2 * cnt) ≤ ms) : Met l yX2_scanWord wX2_scanWord ({ frames := 3, cells := mc, slots := ms, locals := 93 }) (va_Pc [.ref h, .int (iI (fr))] (vx_B (dC, dI) vwCl [(cB, .byte), (cI, .int)] [(h, .inr (2, [.ref tp, .ref ip, .ref wd, .int (iI (lf)), .int (iI (ln))])), (ip, .inr (0, [.int (iI ((lim : Int))), .ref iq, .int (iI ((n : Int)))])), (iq, .inl (cB, il, .inl (f))), (wd, .inr (1, [.ref wb, .ref s1, .ref s2, .int (iI ((cnt : Int)))])), (s1, .inl (cI, nl, .inl (fun k => iI (sa k)))), (s2, .inl (cI, nl, .inl (fun k => iI (za k))))] sz)) (va_Qi (fun (r : Int32) (u : Int × Int × Nat × Nat × Nat × Nat × (Nat → Int) × (Nat → Int)) => r = iI (zWord (bA f n) n fr).1 ∧ u.1 = (if (zWord (bA f n) n fr).1 = -2 then (zWord (bA f n) n fr).2.1 else lf) ∧ (-2147483648 ≤ u.2.1 ∧ u.2.1 ≤ 2147483647) ∧ (8 ≤ u.2.2.2.2.1 ∧ u.2.2.2.2.1 ≤ 1024) ∧ u.2.2.2.2.2.1 ≤ u.2.2.2.2.1 ∧ (0 ≤ (zWord (bA f n) n fr).1 → cnt < 1024 → ((¬ (cnt < 1024 ∧ nl ≤ cnt) ∧ u.2.2.2.2.1 = nl) ∨ ((cnt < 1024 ∧ nl ≤ cnt) ∧ u.2.2.2.2.1 = min 1024 (2 * cnt))) ∧ u.2.2.2.2.2.1 = cnt + 1 ∧ (∀ j, j < cnt → u.2.2.2.2.2.2.1 j = sa j ∧ u.2.2.2.2.2.2.2 j = za j) ∧ u.2.2.2.2.2.2.1 cnt = (zWord (bA f n) n fr).2.2.1 ∧ u.2.2.2.2.2.2.2 cnt = (zWord (bA f n) n fr).2.2.2)) (fun (u : Int × Int × Nat × Nat × Nat × Nat × (Nat → Int) × (Nat → Int)) => vx_E (dC, dI) vwCl [(cB, .byte), (cI, .int)] (va_A [(h, .inr (2, [.ref tp, .ref ip, .ref wd, .int (iI (lf)), .int (iI (ln))])), (ip, .inr (0, [.int (iI ((lim : Int))), .ref iq, .int (iI ((n : Int)))])), (iq, .inl (cB, il, .inl (f))), (wd, .inr (1, [.ref wb, .ref s1, .ref s2, .int (iI ((cnt : Int)))])), (s1, .inl (cI, nl, .inl (fun k => iI (sa k)))), (s2, .inl (cI, nl, .inl (fun k => iI (za k))))] sz) [(h, .inr (2, [.ref tp, .ref ip, .ref wd, .int (iI (u.1)), .int (iI (u.2.1))])), (ip, .inr (0, [.int (iI ((lim : Int))), .ref iq, .int (iI ((n : Int)))])), (iq, .inl (cB, il, .inl (f))), (wd, .inr (1, [.ref wb, .ref u.2.2.1, .ref u.2.2.2.1, .int (iI ((u.2.2.2.2.2.1 : Int)))])), (u.2.2.1, .inl (cI, u.2.2.2.2.1, .inl (fun k => iI (u.2.2.2.2.2.2.1 k)))), (u.2.2.2.1, .inl (cI, u.2.2.2.2.1, .inl (fun k => iI (u.2.2.2.2.2.2.2 k))))]) (va_A [(h, .inr (2, [.ref tp, .ref ip, .ref wd, .int (iI (lf)), .int (iI (ln))])), (ip, .inr (0, [.int (iI ((lim : Int))), .ref iq, .int (iI ((n : Int)))])), (iq, .inl (cB, il, .inl (f))), (wd, .inr (1, [.ref wb, .ref s1, .ref s2, .int (iI ((cnt : Int)))])), (s1, .inl (cI, nl, .inl (fun k => iI (sa k)))), (s2, .inl (cI, nl, .inl (fun k => iI (za k))))] sz)) (mc) (ms) (va_A [(h, .inr (2, [.ref tp, .ref ip, .ref wd, .int (iI (lf)), .int (iI (ln))])), (ip, .inr (0, [.int (iI ((lim : Int))), .ref iq, .int (iI ((n : Int)))])), (iq, .inl (cB, il, .inl (f))), (wd, .inr (1, [.ref wb, .ref s1, .ref s2, .int (iI ((cnt : Int)))])), (s1, .inl (cI, nl, .inl (fun k => iI (sa k)))), (s2, .inl (cI, nl, .inl (fun k => iI (za k))))] sz) := by
  refine Met.ofW (cc := cX2_scanWord) (maxL := 4) (ret := (some .int)) (by decide) rfl ?_
  intro p e s m args below meth c s₁ B hml hv
  obtain ⟨rfl, hsz, hP, hK, hD0⟩ := hv
  have hx := B.exec
  have hb := B.bytes
  have hr := B.returns
  have hts := atoms_spec (ws := wX2_scanWord) B.pre
  have hown : s.vm.findClass "RequestCutter" = some m.cls := findClass_of_methodNamed B.named
  have hlocks := B.notSynchronized
  subst hsz
  have hD := hD0.self (sz := s.heap.size)
  generalize hAe : va_A [(h, .inr (2, [.ref tp, .ref ip, .ref wd, .int (iI (lf)), .int (iI (ln))])), (ip, .inr (0, [.int (iI ((lim : Int))), .ref iq, .int (iI ((n : Int)))])), (iq, .inl (cB, il, .inl (f))), (wd, .inr (1, [.ref wb, .ref s1, .ref s2, .int (iI ((cnt : Int)))])), (s1, .inl (cI, nl, .inl (fun k => iI (sa k)))), (s2, .inl (cI, nl, .inl (fun k => iI (za k))))] s.heap.size = A at hD ⊢
  have hA : ∀ q : Nat, s.heap.size ≤ q → A q := fun q h => by rw [← hAe]; exact Or.inr h
  have hS : va_S A s.heap s.heap [] := va_S.rf
  have hP : va_P (dC, dI) vwCl [(h, .inr (2, [.ref tp, .ref ip, .ref wd, .int (iI (lf)), .int (iI (ln))])), (ip, .inr (0, [.int (iI ((lim : Int))), .ref iq, .int (iI ((n : Int)))])), (iq, .inl (cB, il, .inl (f))), (wd, .inr (1, [.ref wb, .ref s1, .ref s2, .int (iI ((cnt : Int)))])), (s1, .inl (cI, nl, .inl (fun k => iI (sa k)))), (s2, .inl (cI, nl, .inl (fun k => iI (za k))))] s.heap := hP
  have hl := lv_entry ([.ref h, .int (iI (fr))]) (n := 4) (Nat.le_of_ble_eq_true rfl)
  rw [lg_entry_eq]
  generalize (lg_sl ([.ref h, .int (iI (fr))]) ++ List.replicate (4 - (lg_sl ([.ref h, .int (iI (fr))])).length) Slot.unset).toArray = ls at hl ⊢
  have hl : lv_has ls 4 [(0, .ref h), (1, .int (iI (fr)))] := hl
  refine lv_aload_n hx hb dX2_scanWord_0 rfl (lv_at hl 0 rfl) ?_
  refine va_get (D := (dC, dI)) (ci := 2) (v := .ref ip) (C := "RequestCutter") (T := TX2) (N := 5) hx hb hts (fun w h => List.mem_cons_of_mem _ (inX2 w h)) hown hK hP 0 rfl rfl 1 (by decide) (hts _ (List.mem_cons_of_mem _ tw_76)) (fun _ h9 => h9) rfl dX2_scanWord_1 ?_
  refine lv_iload_n hx hb dX2_scanWord_4 rfl (lv_at hl 1 rfl) ?_
  have g_at := bA_rg f n (fr)
  refine vx_Vs (As := [.int (iI (fr))]) (rest := []) (ci := 0) (q0 := 0) [1, 2] ⟨hx, hb, hml, hown, hts⟩ (c_X0_at l dC dI cB cI ip iq lim il n f hc hn (fr) (by omega)) (cwV 1 hts (gd_V tw_158 tw_159 tw_160 tw_20 tw_161) rfl rfl rfl (by decide +kernel) ⟨Nat.le_of_ble_eq_true rfl, Nat.le_of_ble_eq_true rfl⟩) hK hP rfl rfl rfl rfl rfl hl.1 rfl (Nat.le_of_ble_eq_true rfl) dX2_scanWord_5 ⟨Nat.zero_le _, Nat.zero_le _⟩ (fun r hr => ?_)
  obtain rfl : r = iI (bA f n (fr)) := hr
  have g0 := bA_rg f n fr
  refine lv_istore_n (lv' := [(2, .int (iI (bA f n (fr)))), (0, .ref h), (1, .int (iI (fr)))]) hx hb dX2_scanWord_8 rfl hl (by decide) rfl (fun ls hl => ?_)
  refine lv_iload_n hx hb dX2_scanWord_9 rfl (lv_at hl 0 rfl) ?_
  refine lv_iconst (v := iI (-1)) hx hb dX2_scanWord_10 rfl ?_
  refine lx_icmp_ne (a := bA f n (fr)) (b := -1) (tgt := 16) hx hb dX2_scanWord_11 (by decide) (by omega) (by omega) (fun cq1 => ?_) (fun cq1 => ?_)
  · refine lv_iload_n hx hb dX2_scanWord_16 rfl (lv_at hl 0 rfl) ?_
    refine lv_bipush (v := iI (36)) hx hb dX2_scanWord_17 (by decide) ?_
    refine lx_icmp_eq (a := bA f n (fr)) (b := 36) (tgt := 28) hx hb dX2_scanWord_19 (by decide) (by omega) (by omega) (fun cq2 => ?_) (fun cq2 => ?_)
    · refine lv_aload_n hx hb dX2_scanWord_28 rfl (lv_at hl 1 rfl) ?_
      refine lv_iload_n hx hb dX2_scanWord_29 rfl (lv_at hl 2 rfl) ?_
      refine lv_iconst (v := iI (0)) hx hb dX2_scanWord_30 rfl ?_
      refine lv_sipush (v := iI (16384)) hx hb dX2_scanWord_31 (by decide) ?_
      refine lv_iconst (v := iI (3)) hx hb dX2_scanWord_34 rfl ?_
      obtain ⟨L, hL⟩ : ∃ L, L = zLine (bA f n) n (fr) (0) (16384) := ⟨_, rfl⟩
      have gLr := zLine_rg f n (fr) (0) (16384)
      rw [← hL] at gLr
      refine vx_Vi (As := [.int (iI (fr)), .int (iI (0)), .int (iI (16384)), .int (iI (3))]) (rest := []) (wr := [(wd, .inr (1, [.ref wb, .ref s1, .ref s2, .int (iI ((cnt : Int)))])), (s1, .inl (cI, nl, .inl (fun k => iI (sa k)))), (s2, .inl (cI, nl, .inl (fun k => iI (za k))))]) (ci := 2) (q0 := 0) [0, 1, 2] [3, 4, 5] ⟨hx, hb, hml, hown, hts⟩ (c_X2_scanLine l dC dI cB cI _ h tp ip wd iq lim il n f (lf) (ln) hc hn hln (fr) (0) (16384) (3) (by omega) (by omega) (by omega)) (cwV 4 hts (gd_V tw_167 tw_169 tw_1 tw_19 tw_170) rfl rfl rfl (by decide +kernel) ⟨Nat.le_of_ble_eq_true rfl, Nat.le_of_ble_eq_true rfl⟩) hK hP hD hS hA rfl rfl rfl rfl (by decide) rfl rfl rfl rfl hl.1 rfl (Nat.le_of_ble_eq_true rfl) dX2_scanWord_35 ⟨Nat.zero_le _, Nat.zero_le _⟩ (fun r u H locs hw hP hD hS => ?_)
      obtain ⟨l1, z1⟩ := u
      try dsimp only at hw hP hD
      rw [← hL] at hw
      obtain ⟨rfl, hz1, gz1, hl1⟩ := hw
      have hP : va_P (dC, dI) vwCl [(h, .inr (2, [.ref tp, .ref ip, .ref wd, .int (iI (l1)), .int (iI (z1))])), (ip, .inr (0, [.int (iI ((lim : Int))), .ref iq, .int (iI ((n : Int)))])), (iq, .inl (cB, il, .inl (f))), (wd, .inr (1, [.ref wb, .ref s1, .ref s2, .int (iI ((cnt : Int)))])), (s1, .inl (cI, nl, .inl (fun k => iI (sa k)))), (s2, .inl (cI, nl, .inl (fun k => iI (za k))))] H := hP.sub [3, 4, 5, 0, 1, 2] rfl
      have hD : va_D A [(h, .inr (2, [.ref tp, .ref ip, .ref wd, .int (iI (l1)), .int (iI (z1))])), (ip, .inr (0, [.int (iI ((lim : Int))), .ref iq, .int (iI ((n : Int)))])), (iq, .inl (cB, il, .inl (f))), (wd, .inr (1, [.ref wb, .ref s1, .ref s2, .int (iI ((cnt : Int)))])), (s1, .inl (cI, nl, .inl (fun k => iI (sa k)))), (s2, .inl (cI, nl, .inl (fun k => iI (za k))))] := hD.sub [3, 4, 5, 0, 1, 2] (by decide) rfl
      refine lv_istore_n (lv' := [(3, .int (iI (L.1))), (2, .int (iI (bA f n (fr)))), (0, .ref h), (1, .int (iI (fr)))]) hx hb dX2_scanWord_38 rfl hl (by decide) rfl (fun ls hl => ?_)
      refine lv_iload_n hx hb dX2_scanWord_39 rfl (lv_at hl 0 rfl) ?_
      refine lx_if_ge (a := L.1) (tgt := 45) hx hb dX2_scanWord_40 (by decide) (by omega) (fun cq3 => ?_) (fun cq3 => ?_)
      · refine lv_aload_n hx hb dX2_scanWord_45 rfl (lv_at hl 2 rfl) ?_
        refine va_get (D := (dC, dI)) (ci := 2) (v := .ref wd) (C := "RequestCutter") (T := TX2) (N := 5) hx hb hts (fun w h => List.mem_cons_of_mem _ (inX2 w h)) hown hK hP 0 rfl rfl 2 (by decide) (hts _ (List.mem_cons_of_mem _ tw_77)) (fun _ h9 => h9) rfl dX2_scanWord_46 ?_
        refine lv_iload_n hx hb dX2_scanWord_49 rfl (lv_at hl 0 rfl) ?_
        refine lv_aload_n hx hb dX2_scanWord_50 rfl (lv_at hl 2 rfl) ?_
        refine va_get (D := (dC, dI)) (ci := 2) (v := .int (iI (z1))) (C := "RequestCutter") (T := TX2) (N := 5) hx hb hts (fun w h => List.mem_cons_of_mem _ (inX2 w h)) hown hK hP 0 rfl rfl 4 (by decide) (hts _ (List.mem_cons_of_mem _ tw_79)) (fun _ h9 => h9) rfl dX2_scanWord_51 ?_
        refine vx_Vv (As := [.int (iI (L.1)), .int (iI (z1))]) (rest := []) (wr := [(h, .inr (2, [.ref tp, .ref ip, .ref wd, .int (iI (l1)), .int (iI (z1))])), (ip, .inr (0, [.int (iI ((lim : Int))), .ref iq, .int (iI ((n : Int)))])), (iq, .inl (cB, il, .inl (f)))]) (ci := 1) (q0 := 0) [3, 4, 5] [0, 1, 2] ⟨hx, hb, hml, hown, hts⟩ (c_X1_add l dC dI cB cI _ wd wb s1 s2 nl cnt sa za hwc hwn L.1 z1 mc ms hroom) (cwV 2 hts (gd_V tw_187 tw_188 tw_189 tw_21 tw_190) rfl rfl rfl (by decide +kernel) ⟨Nat.le_of_ble_eq_true rfl, Nat.le_of_ble_eq_true rfl⟩) hK hP hD hS hA rfl rfl rfl rfl (by decide) rfl rfl rfl rfl hl.1 rfl (Nat.le_of_ble_eq_true rfl) dX2_scanWord_54 ⟨by show 0 + mc ≤ mc; omega, by show 0 + ms ≤ ms; omega⟩ (fun u H locs hw hP hD hS => ?_)
        obtain ⟨s3, s4, nl1, cnt1, sa1, za1⟩ := u
        try dsimp only at hw hP hD
        obtain ⟨hn1, hc1, hnl1, hcn1, hs1, hx1⟩ := hw
        have hP : va_P (dC, dI) vwCl [(h, .inr (2, [.ref tp, .ref ip, .ref wd, .int (iI (l1)), .int (iI (z1))])), (ip, .inr (0, [.int (iI ((lim : Int))), .ref iq, .int (iI ((n : Int)))])), (iq, .inl (cB, il, .inl (f))), (wd, .inr (1, [.ref wb, .ref s3, .ref s4, .int (iI ((cnt1 : Int)))])), (s3, .inl (cI, nl1, .inl (fun k => iI (sa1 k)))), (s4, .inl (cI, nl1, .inl (fun k => iI (za1 k))))] H := hP.sub [0, 1, 2, 3, 4, 5] rfl
        have hD : va_D A [(h, .inr (2, [.ref tp, .ref ip, .ref wd, .int (iI (l1)), .int (iI (z1))])), (ip, .inr (0, [.int (iI ((lim : Int))), .ref iq, .int (iI ((n : Int)))])), (iq, .inl (cB, il, .inl (f))), (wd, .inr (1, [.ref wb, .ref s3, .ref s4, .int (iI ((cnt1 : Int)))])), (s3, .inl (cI, nl1, .inl (fun k => iI (sa1 k)))), (s4, .inl (cI, nl1, .inl (fun k => iI (za1 k))))] := hD.sub [0, 1, 2, 3, 4, 5] (by decide) rfl
        refine W.widen (k := mc) (n := ms) (by omega) (by omega) ?_
        have hz2 := hz1 (by omega)
        refine lv_aload_n hx hb dX2_scanWord_57 rfl (lv_at hl 2 rfl) ?_
        refine lv_iload_n hx hb dX2_scanWord_58 rfl (lv_at hl 0 rfl) ?_
        refine lv_aload_n hx hb dX2_scanWord_59 rfl (lv_at hl 2 rfl) ?_
        refine va_get (D := (dC, dI)) (ci := 2) (v := .int (iI (z1))) (C := "RequestCutter") (T := TX2) (N := 5) hx hb hts (fun w h => List.mem_cons_of_mem _ (inX2 w h)) hown hK hP 0 rfl rfl 4 (by decide) (hts _ (List.mem_cons_of_mem _ tw_79)) (fun _ h9 => h9) rfl dX2_scanWord_60 ?_
        refine lx_iadd (a := L.1) (b := z1) hx hb dX2_scanWord_63 ?_
        have gE := zEnd_rg f n (L.1 + z1)
        refine vx_Vi (As := [.int (iI (L.1 + z1))]) (rest := []) (wr := [(wd, .inr (1, [.ref wb, .ref s3, .ref s4, .int (iI ((cnt1 : Int)))])), (s3, .inl (cI, nl1, .inl (fun k => iI (sa1 k)))), (s4, .inl (cI, nl1, .inl (fun k => iI (za1 k))))]) (ci := 2) (q0 := 0) [0, 1, 2] [3, 4, 5] ⟨hx, hb, hml, hown, hts⟩ (c_X2_scanWordEnd l dC dI cB cI _ h tp ip wd iq lim il n f l1 z1 hc hn (L.1 + z1) (by omega)) (cwV 1 hts (gd_V tw_200 tw_202 tw_6 tw_19 tw_203) rfl rfl rfl (by decide +kernel) ⟨Nat.le_of_ble_eq_true rfl, Nat.le_of_ble_eq_true rfl⟩) hK hP hD hS hA rfl rfl rfl rfl (by decide) rfl rfl rfl rfl hl.1 rfl (Nat.le_of_ble_eq_true rfl) dX2_scanWord_64 ⟨Nat.le_refl _, Nat.le_refl _⟩ (fun r u H locs hw hP hD hS => ?_)
        obtain ⟨l2, rfl⟩ : ∃ z, z = u := ⟨_, rfl⟩
        try dsimp only at hw hP hD
        obtain ⟨rfl, hl2⟩ := hw
        have hP : va_P (dC, dI) vwCl [(h, .inr (2, [.ref tp, .ref ip, .ref wd, .int (iI (l2)), .int (iI (z1))])), (ip, .inr (0, [.int (iI ((lim : Int))), .ref iq, .int (iI ((n : Int)))])), (iq, .inl (cB, il, .inl (f))), (wd, .inr (1, [.ref wb, .ref s3, .ref s4, .int (iI ((cnt1 : Int)))])), (s3, .inl (cI, nl1, .inl (fun k => iI (sa1 k)))), (s4, .inl (cI, nl1, .inl (fun k => iI (za1 k))))] H := hP.sub [3, 4, 5, 0, 1, 2] rfl
        have hD : va_D A [(h, .inr (2, [.ref tp, .ref ip, .ref wd, .int (iI (l2)), .int (iI (z1))])), (ip, .inr (0, [.int (iI ((lim : Int))), .ref iq, .int (iI ((n : Int)))])), (iq, .inl (cB, il, .inl (f))), (wd, .inr (1, [.ref wb, .ref s3, .ref s4, .int (iI ((cnt1 : Int)))])), (s3, .inl (cI, nl1, .inl (fun k => iI (sa1 k)))), (s4, .inl (cI, nl1, .inl (fun k => iI (za1 k))))] := hD.sub [3, 4, 5, 0, 1, 2] (by decide) rfl
        have hZ := zWord_4 (a := (bA f n)) (n := n) (fr := fr) hL (by omega) (by omega)
        rw [← hz2] at hZ
        have hl3 : l1 = lf := by rw [hl1]; exact if_neg (by omega)
        exact W.iret (v := iI (zEnd (bA f n) (L.1 + z1))) hx hb hr (fun t ht hW => ⟨⟨iI (zEnd (bA f n) (L.1 + z1)), (l2, z1, s3, s4, nl1, cnt1, sa1, za1), rfl, ⟨by rw [hZ], by rw [hZ]; show l2 = (if zEnd (bA f n) (L.1 + z1) = -2 then (if zEnd (bA f n) (L.1 + z1) = -2 then (4 : Int) else 0) else lf); rw [hl2]; by_cases q : zEnd (bA f n) (L.1 + z1) = -2; rw [if_pos q, if_pos q, if_pos q]; rw [if_neg q, if_neg q]; exact hl3, gz1, hn1, hc1, fun _ q => ⟨hnl1, by show cnt1 = cnt + 1; omega, hs1, by rw [hZ]; exact (hx1 q).1, by rw [hZ]; exact (hx1 q).2.trans hz2⟩⟩, by rw [ht]; exact hP, va_K.moved hW.alike hK, hD⟩, hS.F ht⟩) hS.2.2 dX2_scanWord_67
      · refine lv_iload_n hx hb dX2_scanWord_43 rfl (lv_at hl 0 rfl) ?_
        have hZ := zWord_3 (a := (bA f n)) (n := n) (fr := fr) hL (by omega) (by omega)
        refine W.widen (k := mc) (n := ms) (Nat.zero_le _) (Nat.zero_le _) ?_
        exact W.iret (v := iI (L.1)) hx hb hr (fun t ht hW => ⟨⟨iI (L.1), (l1, z1, s1, s2, nl, cnt, sa, za), rfl, ⟨by rw [hZ], by rw [hZ]; show l1 = (if L.1 = -2 then (if L.1 = -2 then (3 : Int) else 0) else lf); rw [hl1]; by_cases q : L.1 = -2; rw [if_pos q, if_pos q, if_pos q]; rw [if_neg q, if_neg q], gz1, hwn, hwc, fun q => by rw [hZ] at q; exact absurd q (by show ¬ 0 ≤ L.1; omega)⟩, by rw [ht]; exact hP, va_K.moved hW.alike hK, hD⟩, hS.F ht⟩) hS.2.2 dX2_scanWord_44
    · refine lv_aload_n hx hb dX2_scanWord_22 rfl (lv_at hl 1 rfl) ?_
      refine lv_iconst (v := iI (2)) hx hb dX2_scanWord_23 rfl ?_
      refine vx_Vi (As := [.int (iI (2))]) (rest := []) (wr := [(ip, .inr (0, [.int (iI ((lim : Int))), .ref iq, .int (iI ((n : Int)))])), (iq, .inl (cB, il, .inl (f))), (wd, .inr (1, [.ref wb, .ref s1, .ref s2, .int (iI ((cnt : Int)))])), (s1, .inl (cI, nl, .inl (fun k => iI (sa k)))), (s2, .inl (cI, nl, .inl (fun k => iI (za k))))]) (ci := 2) (q0 := 0) [0] [1, 2, 3, 4, 5] ⟨hx, hb, hml, hown, hts⟩ (c_X2_tell l dC dI cB cI _ h tp ip wd (lf) (ln) (2)) (cwV 1 hts (gd_V tw_175 tw_177 tw_3 tw_19 tw_178) rfl rfl rfl (by decide +kernel) ⟨Nat.le_of_ble_eq_true rfl, Nat.le_of_ble_eq_true rfl⟩) hK hP hD hS hA rfl rfl rfl rfl (by decide) rfl rfl rfl rfl hl.1 rfl (Nat.le_of_ble_eq_true rfl) dX2_scanWord_24 ⟨Nat.zero_le _, Nat.zero_le _⟩ (fun r u H locs hw hP hD hS => ?_)
      obtain - := u
      try dsimp only at hw hP hD
      obtain rfl := hw
      have hP : va_P (dC, dI) vwCl [(h, .inr (2, [.ref tp, .ref ip, .ref wd, .int (iI (2)), .int (iI (ln))])), (ip, .inr (0, [.int (iI ((lim : Int))), .ref iq, .int (iI ((n : Int)))])), (iq, .inl (cB, il, .inl (f))), (wd, .inr (1, [.ref wb, .ref s1, .ref s2, .int (iI ((cnt : Int)))])), (s1, .inl (cI, nl, .inl (fun k => iI (sa k)))), (s2, .inl (cI, nl, .inl (fun k => iI (za k))))] H := hP.sub [5, 0, 1, 2, 3, 4] rfl
      have hD : va_D A [(h, .inr (2, [.ref tp, .ref ip, .ref wd, .int (iI (2)), .int (iI (ln))])), (ip, .inr (0, [.int (iI ((lim : Int))), .ref iq, .int (iI ((n : Int)))])), (iq, .inl (cB, il, .inl (f))), (wd, .inr (1, [.ref wb, .ref s1, .ref s2, .int (iI ((cnt : Int)))])), (s1, .inl (cI, nl, .inl (fun k => iI (sa k)))), (s2, .inl (cI, nl, .inl (fun k => iI (za k))))] := hD.sub [5, 0, 1, 2, 3, 4] (by decide) rfl
      have hZ := zWord_2 (a := (bA f n)) (n := n) (fr := fr) (by omega) (by omega)
      refine W.widen (k := mc) (n := ms) (Nat.zero_le _) (Nat.zero_le _) ?_
      exact W.iret (v := iI (-2)) hx hb hr (fun t ht hW => ⟨⟨iI (-2), (2, ln, s1, s2, nl, cnt, sa, za), rfl, ⟨by rw [hZ], by rw [hZ]; rfl, hln, hwn, hwc, fun q => by rw [hZ] at q; exact absurd q (by decide)⟩, by rw [ht]; exact hP, va_K.moved hW.alike hK, hD⟩, hS.F ht⟩) hS.2.2 dX2_scanWord_27
  · refine lv_iconst (v := iI (-1)) hx hb dX2_scanWord_14 rfl ?_
    have hZ := zWord_1 (a := (bA f n)) (n := n) (fr := fr) (by omega)
    refine W.widen (k := mc) (n := ms) (Nat.zero_le _) (Nat.zero_le _) ?_
    exact W.iret (v := iI (-1)) hx hb hr (fun t ht hW => ⟨⟨iI (-1), (lf, ln, s1, s2, nl, cnt, sa, za), rfl, ⟨by rw [hZ], by rw [hZ]; rfl, hln, hwn, hwc, fun q => by rw [hZ] at q; exact absurd q (by decide)⟩, by rw [ht]; exact hP, va_K.moved hW.alike hK, hD⟩, hS.F ht⟩) hS.2.2 dX2_scanWord_15
