set_option maxHeartbeats 4000000 in
set_option maxRecDepth 100000 in
/-- scanCounted() -/
theorem c_X2_scanCounted (l : Launch) (dC : Nat → ClassId) (dI : Nat → Nat → Nat) (cB cI : ClassId) (sz : Nat) (h tp ip wd iq lim il n : Nat) (f : Nat → Int32) (ln : Int) (hc : n ≤ il) (hn : il ≤ 65536) (hln : -2147483648 ≤ ln ∧ ln ≤ 2147483647) (wb s1 s2 nl : Nat) (sa za : Nat → Int) (hwn : 8 ≤ nl ∧ nl ≤ 1024) : Met l yX2_scanCounted wX2_scanCounted ({ frames := 4, cells := 400, slots := 8192, locals := 116 }) (va_Pc [.ref h] (vx_B (dC, dI) vwCl [(cB, .byte), (cI, .int)] [(h, .inr (2, [.ref tp, .ref ip, .ref wd, .int (iI (0)), .int (iI (ln))])), (ip, .inr (0, [.int (iI ((lim : Int))), .ref iq, .int (iI ((n : Int)))])), (iq, .inl (cB, il, .inl (f))), (wd, .inr (1, [.ref wb, .ref s1, .ref s2, .int (iI (((0 : Nat) : Int)))])), (s1, .inl (cI, nl, .inl (fun k => iI (sa k)))), (s2, .inl (cI, nl, .inl (fun k => iI (za k))))] sz)) (va_Qi (fun (r : Int32) (u : Int × Int × Nat × Nat × Nat × Nat × (Nat → Int) × (Nat → Int)) => r = iI (zCount (bA f n) n).1 ∧ u.1 = (if (zCount (bA f n) n).1 = -2 then (zCount (bA f n) n).2.1 else 0) ∧ (-2147483648 ≤ u.2.1 ∧ u.2.1 ≤ 2147483647) ∧ (8 ≤ u.2.2.2.2.1 ∧ u.2.2.2.2.1 ≤ 1024) ∧ u.2.2.2.2.2.1 ≤ u.2.2.2.2.1 ∧ (0 ≤ (zCount (bA f n) n).1 → wR (zCount (bA f n) n).2.2 u.2.2.2.2.2.1 u.2.2.2.2.2.2.1 u.2.2.2.2.2.2.2)) (fun (u : Int × Int × Nat × Nat × Nat × Nat × (Nat → Int) × (Nat → Int)) => vx_E (dC, dI) vwCl [(cB, .byte), (cI, .int)] (va_A [(h, .inr (2, [.ref tp, .ref ip, .ref wd, .int (iI (0)), .int (iI (ln))])), (ip, .inr (0, [.int (iI ((lim : Int))), .ref iq, .int (iI ((n : Int)))])), (iq, .inl (cB, il, .inl (f))), (wd, .inr (1, [.ref wb, .ref s1, .ref s2, .int (iI (((0 : Nat) : Int)))])), (s1, .inl (cI, nl, .inl (fun k => iI (sa k)))), (s2, .inl (cI, nl, .inl (fun k => iI (za k))))] sz) [(h, .inr (2, [.ref tp, .ref ip, .ref wd, .int (iI (u.1)), .int (iI (u.2.1))])), (ip, .inr (0, [.int (iI ((lim : Int))), .ref iq, .int (iI ((n : Int)))])), (iq, .inl (cB, il, .inl (f))), (wd, .inr (1, [.ref wb, .ref u.2.2.1, .ref u.2.2.2.1, .int (iI ((u.2.2.2.2.2.1 : Int)))])), (u.2.2.1, .inl (cI, u.2.2.2.2.1, .inl (fun k => iI (u.2.2.2.2.2.2.1 k)))), (u.2.2.2.1, .inl (cI, u.2.2.2.2.1, .inl (fun k => iI (u.2.2.2.2.2.2.2 k))))]) (va_A [(h, .inr (2, [.ref tp, .ref ip, .ref wd, .int (iI (0)), .int (iI (ln))])), (ip, .inr (0, [.int (iI ((lim : Int))), .ref iq, .int (iI ((n : Int)))])), (iq, .inl (cB, il, .inl (f))), (wd, .inr (1, [.ref wb, .ref s1, .ref s2, .int (iI (((0 : Nat) : Int)))])), (s1, .inl (cI, nl, .inl (fun k => iI (sa k)))), (s2, .inl (cI, nl, .inl (fun k => iI (za k))))] sz)) (400) (8192) (va_A [(h, .inr (2, [.ref tp, .ref ip, .ref wd, .int (iI (0)), .int (iI (ln))])), (ip, .inr (0, [.int (iI ((lim : Int))), .ref iq, .int (iI ((n : Int)))])), (iq, .inl (cB, il, .inl (f))), (wd, .inr (1, [.ref wb, .ref s1, .ref s2, .int (iI (((0 : Nat) : Int)))])), (s1, .inl (cI, nl, .inl (fun k => iI (sa k)))), (s2, .inl (cI, nl, .inl (fun k => iI (za k))))] sz) := by
  refine Met.ofW (cc := cX2_scanCounted) (maxL := 4) (ret := (some .int)) (by decide) rfl ?_
  intro p e s m args below meth c s₁ B hml hv
  obtain ⟨rfl, hsz, hP, hK, hD0⟩ := hv
  have hx := B.exec
  have hb := B.bytes
  have hr := B.returns
  have hts := atoms_spec (ws := wX2_scanCounted) B.pre
  have hown : s.vm.findClass "RequestCutter" = some m.cls := findClass_of_methodNamed B.named
  have hlocks := B.notSynchronized
  subst hsz
  have hD := hD0.self (sz := s.heap.size)
  generalize hAe : va_A [(h, .inr (2, [.ref tp, .ref ip, .ref wd, .int (iI (0)), .int (iI (ln))])), (ip, .inr (0, [.int (iI ((lim : Int))), .ref iq, .int (iI ((n : Int)))])), (iq, .inl (cB, il, .inl (f))), (wd, .inr (1, [.ref wb, .ref s1, .ref s2, .int (iI (((0 : Nat) : Int)))])), (s1, .inl (cI, nl, .inl (fun k => iI (sa k)))), (s2, .inl (cI, nl, .inl (fun k => iI (za k))))] s.heap.size = A at hD ⊢
  have hA : ∀ q : Nat, s.heap.size ≤ q → A q := fun q h => by rw [← hAe]; exact Or.inr h
  have hS : va_S A s.heap s.heap [] := va_S.rf
  have hP : va_P (dC, dI) vwCl [(h, .inr (2, [.ref tp, .ref ip, .ref wd, .int (iI (0)), .int (iI (ln))])), (ip, .inr (0, [.int (iI ((lim : Int))), .ref iq, .int (iI ((n : Int)))])), (iq, .inl (cB, il, .inl (f))), (wd, .inr (1, [.ref wb, .ref s1, .ref s2, .int (iI (((0 : Nat) : Int)))])), (s1, .inl (cI, nl, .inl (fun k => iI (sa k)))), (s2, .inl (cI, nl, .inl (fun k => iI (za k))))] s.heap := hP
  have hl := lv_entry ([.ref h]) (n := 4) (Nat.le_of_ble_eq_true rfl)
  rw [lg_entry_eq]
  generalize (lg_sl ([.ref h]) ++ List.replicate (4 - (lg_sl ([.ref h])).length) Slot.unset).toArray = ls at hl ⊢
  have hl : lv_has ls 4 [(0, .ref h)] := hl
  refine lv_aload_n hx hb dX2_scanCounted_0 rfl (lv_at hl 0 rfl) ?_
  refine lv_iconst (v := iI (0)) hx hb dX2_scanCounted_1 rfl ?_
  refine lx_ldc (z := -999999) (v := -999999) hx hb hown (hts _ (List.mem_cons_of_mem _ tw_166)) (by decide) dX2_scanCounted_2 ?_
  refine lv_sipush (v := iI (1024)) hx hb dX2_scanCounted_4 (by decide) ?_
  refine lv_iconst (v := iI (1)) hx hb dX2_scanCounted_7 rfl ?_
  obtain ⟨L, hL⟩ : ∃ L, L = zLine (bA f n) n (0) (-999999) (1024) := ⟨_, rfl⟩
  have gLr := zLine_rg f n (0) (-999999) (1024)
  rw [← hL] at gLr
  refine vx_Vi (As := [.int (iI (0)), .int (iI (-999999)), .int (iI (1024)), .int (iI (1))]) (rest := []) (wr := [(wd, .inr (1, [.ref wb, .ref s1, .ref s2, .int (iI (((0 : Nat) : Int)))])), (s1, .inl (cI, nl, .inl (fun k => iI (sa k)))), (s2, .inl (cI, nl, .inl (fun k => iI (za k))))]) (ci := 2) (q0 := 0) [0, 1, 2] [3, 4, 5] ⟨hx, hb, hml, hown, hts⟩ (c_X2_scanLine l dC dI cB cI _ h tp ip wd iq lim il n f (0) (ln) hc hn hln (0) (-999999) (1024) (1) (by omega) (by omega) (by omega)) (cwV 4 hts (gd_V tw_167 tw_169 tw_1 tw_19 tw_170) rfl rfl rfl (by decide +kernel) ⟨Nat.le_of_ble_eq_true rfl, Nat.le_of_ble_eq_true rfl⟩) hK hP hD hS hA rfl rfl rfl rfl (by decide) rfl rfl rfl rfl hl.1 rfl (Nat.le_of_ble_eq_true rfl) dX2_scanCounted_8 ⟨Nat.zero_le _, Nat.zero_le _⟩ (fun r u H locs hw hP hD hS => ?_)
  obtain ⟨l1, z1⟩ := u
  try dsimp only at hw hP hD
  rw [← hL] at hw
  obtain ⟨rfl, hz1, gz1, hl1⟩ := hw
  have hP : va_P (dC, dI) vwCl [(h, .inr (2, [.ref tp, .ref ip, .ref wd, .int (iI (l1)), .int (iI (z1))])), (ip, .inr (0, [.int (iI ((lim : Int))), .ref iq, .int (iI ((n : Int)))])), (iq, .inl (cB, il, .inl (f))), (wd, .inr (1, [.ref wb, .ref s1, .ref s2, .int (iI (((0 : Nat) : Int)))])), (s1, .inl (cI, nl, .inl (fun k => iI (sa k)))), (s2, .inl (cI, nl, .inl (fun k => iI (za k))))] H := hP.sub [3, 4, 5, 0, 1, 2] rfl
  have hD : va_D A [(h, .inr (2, [.ref tp, .ref ip, .ref wd, .int (iI (l1)), .int (iI (z1))])), (ip, .inr (0, [.int (iI ((lim : Int))), .ref iq, .int (iI ((n : Int)))])), (iq, .inl (cB, il, .inl (f))), (wd, .inr (1, [.ref wb, .ref s1, .ref s2, .int (iI (((0 : Nat) : Int)))])), (s1, .inl (cI, nl, .inl (fun k => iI (sa k)))), (s2, .inl (cI, nl, .inl (fun k => iI (za k))))] := hD.sub [3, 4, 5, 0, 1, 2] (by decide) rfl
  refine lv_istore_n (lv' := [(1, .int (iI (L.1))), (0, .ref h)]) hx hb dX2_scanCounted_11 rfl hl (by decide) rfl (fun ls hl => ?_)
  refine lv_aload_n hx hb dX2_scanCounted_12 rfl (lv_at hl 1 rfl) ?_
  refine va_get (D := (dC, dI)) (ci := 2) (v := .int (iI (z1))) (C := "RequestCutter") (T := TX2) (N := 5) hx hb hts (fun w h => List.mem_cons_of_mem _ (inX2 w h)) hown hK hP 0 rfl rfl 4 (by decide) (hts _ (List.mem_cons_of_mem _ tw_79)) (fun _ h9 => h9) rfl dX2_scanCounted_13 ?_
  refine lv_istore_n (lv' := [(2, .int (iI (z1))), (1, .int (iI (L.1))), (0, .ref h)]) hx hb dX2_scanCounted_16 rfl hl (by decide) rfl (fun ls hl => ?_)
  refine lv_iconst (v := iI (0)) hx hb dX2_scanCounted_17 rfl ?_
  refine lv_istore_n (lv' := [(3, .int (iI (0))), (2, .int (iI (z1))), (1, .int (iI (L.1))), (0, .ref h)]) hx hb dX2_scanCounted_18 rfl hl (by decide) rfl (fun ls hl => ?_)
  obtain ⟨ft0, hft0⟩ : ∃ t : Int, t = (if L.1 = -2 then 1 else 0) := ⟨_, rfl⟩
  have hz0 : zWords (bA f n) n z1.toNat L.1 ft0 [] = (zCount (bA f n) n) := by
    by_cases q : L.1 < 0
    · rw [zWords_neg q, zCount_neg hL q, hft0]
    · rw [zCount_pos hL q, hft0, hz1 (by omega), if_neg (by omega)]
  refine (?_ : ∀ (k : Nat) (pl : Int) (j : Int) (lf : Int) (ln : Int) (s1 : Nat) (s2 : Nat) (nl : Nat) (cnt : Nat) (sa : Nat → Int) (za : Nat → Int) (C : Nat) (U : Nat) (ft : Int) (ws : List (Int × Int)) (H : Heap) (locs : List Loc) (ls : Array Slot), z1 - j ≤ k → (0 < k → j + k = z1) → (0 ≤ j ∧ (j ≤ z1 ∨ j = 0)) → zWords (bA f n) n k pl ft ws = (zCount (bA f n) n) → lf = (if pl = -2 then ft else 0) → (pl = -1 ∨ pl = -2 ∨ (0 ≤ pl ∧ pl ≤ n)) → (-2147483648 ≤ ln ∧ ln ≤ 2147483647) → (8 ≤ nl ∧ nl ≤ 1024) → cnt ≤ nl → (0 ≤ pl → wR ws cnt sa za ∧ (cnt : Int) = j ∧ (z1 ≤ 1024) ∧ (U ≤ 4 * nl ∨ (nl = 1024 ∧ U ≤ 6144)) ∧ 16 * C ≤ U) → (C ≤ 400 ∧ U ≤ 8192) → va_P (dC, dI) vwCl [(h, .inr (2, [.ref tp, .ref ip, .ref wd, .int (iI (lf)), .int (iI (ln))])), (ip, .inr (0, [.int (iI ((lim : Int))), .ref iq, .int (iI ((n : Int)))])), (iq, .inl (cB, il, .inl (f))), (wd, .inr (1, [.ref wb, .ref s1, .ref s2, .int (iI ((cnt : Int)))])), (s1, .inl (cI, nl, .inl (fun k => iI (sa k)))), (s2, .inl (cI, nl, .inl (fun k => iI (za k))))] H → va_D A [(h, .inr (2, [.ref tp, .ref ip, .ref wd, .int (iI (lf)), .int (iI (ln))])), (ip, .inr (0, [.int (iI ((lim : Int))), .ref iq, .int (iI ((n : Int)))])), (iq, .inl (cB, il, .inl (f))), (wd, .inr (1, [.ref wb, .ref s1, .ref s2, .int (iI ((cnt : Int)))])), (s1, .inl (cI, nl, .inl (fun k => iI (sa k)))), (s2, .inl (cI, nl, .inl (fun k => iI (za k))))] → va_S A s.heap H locs → lv_has ls 4 [(1, .int (iI (pl))), (3, .int (iI (j))), (2, .int (iI (z1))), (0, .ref h)] → W p l e _ s m _ below meth c H locs C U _ (F0 m 19 ls [])) (z1.toNat) (L.1) (0) (l1) (z1) (s1) (s2) (nl) (0) (sa) (za) (0) (0) (ft0) ([]) _ _ ls (by omega) (by omega) (by omega) (hz0) (by rw [hl1, hft0]; by_cases q : L.1 = -2; rw [if_pos q, if_pos q]; rw [if_neg q, if_neg q]) (by omega) (gz1) (hwn) (Nat.zero_le _) (fun q => ⟨wR_0, rfl, by have := hz1 q; omega, by omega⟩) (by omega) (hP.sub [0, 1, 2, 3, 4, 5] rfl) (hD.sub [0, 1, 2, 3, 4, 5] (by decide) rfl) hS (lv_sub hl [2, 0, 1, 3] rfl)
  intro k
  induction k with
  | zero =>
    intro pl j lf ln s1 s2 nl cnt sa za C U ft ws H locs ls hk1 hk2 hj hz hlf hpl hln hwn hwc hwr hCU hP hD hS hl
    refine lv_iload_n hx hb dX2_scanCounted_19 rfl (lv_at hl 1 rfl) ?_
    refine lv_iload_n hx hb dX2_scanCounted_20 rfl (lv_at hl 2 rfl) ?_
    refine lx_icmp_ge (a := j) (b := z1) (tgt := 40) hx hb dX2_scanCounted_21 (by decide) (by omega) (by omega) (fun cq1 => ?_) (fun cq1 => ?_)
    · refine lv_iload_n hx hb dX2_scanCounted_40 rfl (lv_at hl 0 rfl) ?_
      have hZ : (zCount (bA f n) n) = (pl, ft, ws) := by rw [← hz]; first | rfl | exact zWords_neg (by omega)
      refine W.widen (k := 400) (n := 8192) (by omega) (by omega) ?_
      exact W.iret (v := iI (pl)) hx hb hr (fun t ht hW => ⟨⟨iI (pl), (lf, ln, s1, s2, nl, cnt, sa, za), rfl, ⟨by rw [hZ], by rw [hZ]; exact hlf, hln, hwn, hwc, fun q => by rw [hZ] at q ⊢; exact (hwr q).1⟩, by rw [ht]; exact hP, va_K.moved hW.alike hK, hD⟩, hS.F ht⟩) hS.2.2 dX2_scanCounted_41
    · exact absurd cq1 (by omega)
  | succ k ih =>
    intro pl j lf ln s1 s2 nl cnt sa za C U ft ws H locs ls hk1 hk2 hj hz hlf hpl hln hwn hwc hwr hCU hP hD hS hl
    refine lv_iload_n hx hb dX2_scanCounted_19 rfl (lv_at hl 1 rfl) ?_
    refine lv_iload_n hx hb dX2_scanCounted_20 rfl (lv_at hl 2 rfl) ?_
    refine lx_icmp_ge (a := j) (b := z1) (tgt := 40) hx hb dX2_scanCounted_21 (by decide) (by omega) (by omega) (fun cq2 => ?_) (fun cq2 => ?_)
    · exact absurd cq2 (by omega)
    · refine lv_iload_n hx hb dX2_scanCounted_24 rfl (lv_at hl 0 rfl) ?_
      refine lx_if_lt (a := pl) (tgt := 40) hx hb dX2_scanCounted_25 (by decide) (by omega) (fun cq3 => ?_) (fun cq3 => ?_)
      · refine lv_iload_n hx hb dX2_scanCounted_40 rfl (lv_at hl 0 rfl) ?_
        have hZ : (zCount (bA f n) n) = (pl, ft, ws) := by rw [← hz]; first | rfl | exact zWords_neg (by omega)
        refine W.widen (k := 400) (n := 8192) (by omega) (by omega) ?_
        exact W.iret (v := iI (pl)) hx hb hr (fun t ht hW => ⟨⟨iI (pl), (lf, ln, s1, s2, nl, cnt, sa, za), rfl, ⟨by rw [hZ], by rw [hZ]; exact hlf, hln, hwn, hwc, fun q => by rw [hZ] at q ⊢; exact (hwr q).1⟩, by rw [ht]; exact hP, va_K.moved hW.alike hK, hD⟩, hS.F ht⟩) hS.2.2 dX2_scanCounted_41
      · refine lv_aload_n hx hb dX2_scanCounted_28 rfl (lv_at hl 3 rfl) ?_
        refine lv_iload_n hx hb dX2_scanCounted_29 rfl (lv_at hl 0 rfl) ?_
        obtain ⟨hwr1, hcj, hzm, hUU, h16⟩ := hwr (by omega)
        obtain ⟨m1, m2, hm12⟩ : ∃ m1 m2 : Nat, (¬ (cnt < 1024 ∧ nl ≤ cnt) ∧ m1 = 0 ∧ m2 = 0) ∨ ((cnt < 1024 ∧ nl ≤ cnt) ∧ m1 = 2 ∧ m2 = 2 * min 1024 (2 * cnt)) := by
          by_cases q : cnt < 1024 ∧ nl ≤ cnt
          · exact ⟨2, _, Or.inr ⟨q, rfl, rfl⟩⟩
          · exact ⟨0, 0, Or.inl ⟨q, rfl, rfl⟩⟩
        have hlf0 : lf = 0 := by rw [hlf]; exact if_neg (by omega)
        obtain ⟨V, hV⟩ : ∃ V, V = zWord (bA f n) n pl := ⟨_, rfl⟩
        have gW := zWord_rg f n pl
        rw [← hV] at gW
        refine vx_Vi (As := [.int (iI (pl))]) (rest := []) (wr := []) (ci := 2) (q0 := 0) [0, 1, 2, 3, 4, 5] [] ⟨hx, hb, hml, hown, hts⟩ (c_X2_scanWord l dC dI cB cI _ h tp ip wd iq lim il n f lf ln hc hn hln wb s1 s2 nl cnt sa za hwc hwn pl (by omega) m1 m2 (fun q => by omega)) (cwV 1 hts (gd_V tw_183 tw_185 tw_5 tw_19 tw_186) rfl rfl rfl (by decide +kernel) ⟨Nat.le_of_ble_eq_true rfl, Nat.le_of_ble_eq_true rfl⟩) hK hP hD hS hA rfl rfl rfl rfl (by decide) rfl rfl rfl rfl hl.1 rfl (Nat.le_of_ble_eq_true rfl) dX2_scanCounted_30 ⟨by show C + m1 ≤ 400; omega, by show U + m2 ≤ 8192; omega⟩ (fun r u H locs hw hP hD hS => ?_)
        obtain ⟨l2, n2, s3, s4, nl1, cnt1, sa1, za1⟩ := u
        try dsimp only at hw hP hD
        rw [← hV] at hw
        obtain ⟨rfl, hl2, gz2, hn2, hc2, hx2⟩ := hw
        have hP : va_P (dC, dI) vwCl [(h, .inr (2, [.ref tp, .ref ip, .ref wd, .int (iI (l2)), .int (iI (n2))])), (ip, .inr (0, [.int (iI ((lim : Int))), .ref iq, .int (iI ((n : Int)))])), (iq, .inl (cB, il, .inl (f))), (wd, .inr (1, [.ref wb, .ref s3, .ref s4, .int (iI ((cnt1 : Int)))])), (s3, .inl (cI, nl1, .inl (fun k => iI (sa1 k)))), (s4, .inl (cI, nl1, .inl (fun k => iI (za1 k))))] H := hP.sub [0, 1, 2, 3, 4, 5] rfl
        have hD : va_D A [(h, .inr (2, [.ref tp, .ref ip, .ref wd, .int (iI (l2)), .int (iI (n2))])), (ip, .inr (0, [.int (iI ((lim : Int))), .ref iq, .int (iI ((n : Int)))])), (iq, .inl (cB, il, .inl (f))), (wd, .inr (1, [.ref wb, .ref s3, .ref s4, .int (iI ((cnt1 : Int)))])), (s3, .inl (cI, nl1, .inl (fun k => iI (sa1 k)))), (s4, .inl (cI, nl1, .inl (fun k => iI (za1 k))))] := hD.sub [0, 1, 2, 3, 4, 5] (by decide) rfl
        refine lv_istore_n (lv' := [(1, .int (iI (V.1))), (3, .int (iI (j))), (2, .int (iI (z1))), (0, .ref h)]) hx hb dX2_scanCounted_33 rfl hl (by decide) rfl (fun ls hl => ?_)
        refine lv_iinc (v := iI (j + 1)) (lv' := [(3, .int (iI (j + 1))), (1, .int (iI (V.1))), (2, .int (iI (z1))), (0, .ref h)]) hx hb dX2_scanCounted_34 hl (k := 1) rfl (iI_add _ _) (by decide) rfl (fun ls hl => ?_)
        refine lv_goto (tgt := 19) hx hb dX2_scanCounted_37 (by decide) ?_
        exact ih (V.1) (j + 1) (l2) (n2) (s3) (s4) (nl1) (cnt1) (sa1) (za1) (C + m1) (U + m2) (V.2.1) (ws ++ [V.2.2]) _ _ ls (by omega) (by omega) (by omega) (by rw [hV, ← zWords_suc (by omega)]; exact hz) (by rw [hl2, hlf0]) (by omega) (gz2) (hn2) (hc2) (fun q => by obtain ⟨hx3, hx4, hx5, hx6, hx7⟩ := hx2 q (by omega); exact ⟨by rw [hx4]; exact wR_add hwr1 hx5 hx6 hx7, by omega, hzm, by omega⟩) (by omega) (hP.sub [0, 1, 2, 3, 4, 5] rfl) (hD.sub [0, 1, 2, 3, 4, 5] (by decide) rfl) hS (lv_sub hl [1, 0, 2, 3] rfl)
set_option maxHeartbeats 4000000 in
set_option maxRecDepth 100000 in
/-- findLineFeed() -/
theorem c_X2_findLineFeed (l : Launch) (dC : Nat → ClassId) (dI : Nat → Nat → Nat) (cB cI : ClassId) (h tp ip wd iq lim il n : Nat) (f : Nat → Int32) (lf ln : Int) (hc : n ≤ il) (hn : il ≤ 65536) : Met l yX2_findLineFeed wX2_findLineFeed ({ frames := 1, cells := 0, slots := 0, locals := 21 }) (va_Pc [.ref h] (vx_R (dC, dI) vwCl [(cB, .byte), (cI, .int)] [(h, .inr (2, [.ref tp, .ref ip, .ref wd, .int (iI (lf)), .int (iI (ln))])), (ip, .inr (0, [.int (iI ((lim : Int))), .ref iq, .int (iI ((n : Int)))])), (iq, .inl (cB, il, .inl (f)))])) (vp_Si (fun r => r = iI (zLF (bA f n) (min n 2048) 0))) 0 0 (fun _ => False) := by
  refine Met.ofW (cc := cX2_findLineFeed) (maxL := 3) (ret := (some .int)) (by decide) rfl ?_
  intro p e s m args below meth c s₁ B hml hv
  obtain ⟨rfl, hP, hK⟩ := hv
  have hx := B.exec
  have hb := B.bytes
  have hr := B.returns
  have hts := atoms_spec (ws := wX2_findLineFeed) B.pre
  have hown : s.vm.findClass "RequestCutter" = some m.cls := findClass_of_methodNamed B.named
  have hlocks := B.notSynchronized
  have hP : va_P (dC, dI) vwCl [(h, .inr (2, [.ref tp, .ref ip, .ref wd, .int (iI (lf)), .int (iI (ln))])), (ip, .inr (0, [.int (iI ((lim : Int))), .ref iq, .int (iI ((n : Int)))])), (iq, .inl (cB, il, .inl (f)))] s.heap := hP
  have hl := lv_entry ([.ref h]) (n := 3) (Nat.le_of_ble_eq_true rfl)
  rw [lg_entry_eq]
  generalize (lg_sl ([.ref h]) ++ List.replicate (3 - (lg_sl ([.ref h])).length) Slot.unset).toArray = ls at hl ⊢
  have hl : lv_has ls 3 [(0, .ref h)] := hl
  refine lv_aload_n hx hb dX2_findLineFeed_0 rfl (lv_at hl 0 rfl) ?_
  refine va_get (D := (dC, dI)) (ci := 2) (v := .ref ip) (C := "RequestCutter") (T := TX2) (N := 5) hx hb hts (fun w h => List.mem_cons_of_mem _ (inX2 w h)) hown hK hP 0 rfl rfl 1 (by decide) (hts _ (List.mem_cons_of_mem _ tw_76)) (fun _ h9 => h9) rfl dX2_findLineFeed_1 ?_
  refine vx_Vs (As := []) (rest := []) (ci := 0) (q0 := 0) [1] ⟨hx, hb, hml, hown, hts⟩ (c_X0_count l dC dI cB cI ip iq lim n) (cwV 0 hts (gd_V tw_135 tw_136 tw_137 tw_20 tw_138) rfl rfl rfl (by decide +kernel) ⟨Nat.le_of_ble_eq_true rfl, Nat.le_of_ble_eq_true rfl⟩) hK hP rfl rfl rfl rfl rfl hl.1 rfl (Nat.le_of_ble_eq_true rfl) dX2_findLineFeed_4 ⟨Nat.zero_le _, Nat.zero_le _⟩ (fun r hr => ?_)
  obtain rfl : r = iI ((n : Int)) := hr
  refine lv_sipush (v := iI (2048)) hx hb dX2_findLineFeed_7 (by decide) ?_
  refine lx_min (a := (n : Int)) (b := 2048) hx hb (by rw [hml]; exact hl.1.symm) hown (hts _ (List.mem_cons_of_mem _ tw_212)) (hts _ (List.mem_cons_of_mem _ tw_103)) (hts _ (List.mem_cons_of_mem _ tw_23)) (hts _ (List.mem_cons_of_mem _ tw_104)) (Nat.le_of_ble_eq_true rfl) (Nat.le_of_ble_eq_true rfl) (Nat.zero_le _) (Nat.zero_le _) (by omega) (by omega) dX2_findLineFeed_10 ?_
  refine lv_istore_n (lv' := [(1, .int (iI (min ((n : Int)) (2048)))), (0, .ref h)]) hx hb dX2_findLineFeed_13 rfl hl (by decide) rfl (fun ls hl => ?_)
  refine lv_iconst (v := iI (0)) hx hb dX2_findLineFeed_14 rfl ?_
  refine lv_istore_n (lv' := [(2, .int (iI (0))), (1, .int (iI (min ((n : Int)) (2048)))), (0, .ref h)]) hx hb dX2_findLineFeed_15 rfl hl (by decide) rfl (fun ls hl => ?_)
  refine (?_ : ∀ (k : Nat) (i : Int) (ls : Array Slot), i + k = ((min n 2048 : Nat) : Int) → 0 ≤ i → zLF (bA f n) k i = zLF (bA f n) (min n 2048) 0 → lv_has ls 3 [(2, .int (iI (i))), (1, .int (iI (min ((n : Int)) (2048)))), (0, .ref h)] → W p l e _ s m _ below meth c _ _ _ _ _ (F0 m 16 ls [])) (min n 2048) (0) ls (by omega) (by omega) (rfl) (lv_sub hl [0, 1, 2] rfl)
  intro k
  induction k with
  | zero =>
    intro i ls hk hi0 hz hl
    refine lv_iload_n hx hb dX2_findLineFeed_16 rfl (lv_at hl 0 rfl) ?_
    refine lv_iload_n hx hb dX2_findLineFeed_17 rfl (lv_at hl 1 rfl) ?_
    refine lx_icmp_ge (a := i) (b := min ((n : Int)) (2048)) (tgt := 42) hx hb dX2_findLineFeed_18 (by decide) (by omega) (by omega) (fun cq1 => ?_) (fun cq1 => ?_)
    · refine lv_iconst (v := iI (-1)) hx hb dX2_findLineFeed_42 rfl ?_
      exact W.iret (v := iI (-1)) hx hb hr (fun t ht hW => ⟨iI (-1), rfl, by rw [← hz]; rfl, ht⟩) (fun _ h => by cases h) dX2_findLineFeed_43
    · exact absurd cq1 (by omega)
  | succ k ih =>
    intro i ls hk hi0 hz hl
    refine lv_iload_n hx hb dX2_findLineFeed_16 rfl (lv_at hl 0 rfl) ?_
    refine lv_iload_n hx hb dX2_findLineFeed_17 rfl (lv_at hl 1 rfl) ?_
    refine lx_icmp_ge (a := i) (b := min ((n : Int)) (2048)) (tgt := 42) hx hb dX2_findLineFeed_18 (by decide) (by omega) (by omega) (fun cq2 => ?_) (fun cq2 => ?_)
    · exact absurd cq2 (by omega)
    · refine lv_aload_n hx hb dX2_findLineFeed_21 rfl (lv_at hl 2 rfl) ?_
      refine va_get (D := (dC, dI)) (ci := 2) (v := .ref ip) (C := "RequestCutter") (T := TX2) (N := 5) hx hb hts (fun w h => List.mem_cons_of_mem _ (inX2 w h)) hown hK hP 0 rfl rfl 1 (by decide) (hts _ (List.mem_cons_of_mem _ tw_76)) (fun _ h9 => h9) rfl dX2_findLineFeed_22 ?_
      refine lv_iload_n hx hb dX2_findLineFeed_25 rfl (lv_at hl 0 rfl) ?_
      have g_at := bA_rg f n (i)
      refine vx_Vs (As := [.int (iI (i))]) (rest := []) (ci := 0) (q0 := 0) [1, 2] ⟨hx, hb, hml, hown, hts⟩ (c_X0_at l dC dI cB cI ip iq lim il n f hc hn (i) (by omega)) (cwV 1 hts (gd_V tw_158 tw_159 tw_160 tw_20 tw_161) rfl rfl rfl (by decide +kernel) ⟨Nat.le_of_ble_eq_true rfl, Nat.le_of_ble_eq_true rfl⟩) hK hP rfl rfl rfl rfl rfl hl.1 rfl (Nat.le_of_ble_eq_true rfl) dX2_findLineFeed_26 ⟨Nat.zero_le _, Nat.zero_le _⟩ (fun r hr => ?_)
      obtain rfl : r = iI (bA f n (i)) := hr
      refine lv_bipush (v := iI (10)) hx hb dX2_findLineFeed_29 (by decide) ?_
      refine lx_icmp_ne (a := bA f n (i)) (b := 10) (tgt := 36) hx hb dX2_findLineFeed_31 (by decide) (by omega) (by omega) (fun cq3 => ?_) (fun cq3 => ?_)
      · refine lv_iinc (v := iI (i + 1)) (lv' := [(2, .int (iI (i + 1))), (1, .int (iI (min ((n : Int)) (2048)))), (0, .ref h)]) hx hb dX2_findLineFeed_36 hl (k := 0) rfl (iI_add _ _) (by decide) rfl (fun ls hl => ?_)
        refine lv_goto (tgt := 16) hx hb dX2_findLineFeed_39 (by decide) ?_
        exact ih (i + 1) ls (by omega) (by omega) (by rw [← hz]; exact (if_neg (by omega)).symm) (lv_sub hl [0, 1, 2] rfl)
      · refine lv_iload_n hx hb dX2_findLineFeed_34 rfl (lv_at hl 0 rfl) ?_
        exact W.iret (v := iI (i)) hx hb hr (fun t ht hW => ⟨iI (i), rfl, by rw [← hz]; exact congrArg iI (if_pos (by omega)).symm, ht⟩) (fun _ h => by cases h) dX2_findLineFeed_35
set_option maxHeartbeats 4000000 in
set_option maxRecDepth 100000 in
/-- addPlainWords(stop) -/
theorem c_X2_addPlainWords (l : Launch) (dC : Nat → ClassId) (dI : Nat → Nat → Nat) (cB cI : ClassId) (sz : Nat) (h tp ip wd iq lim il n : Nat) (f : Nat → Int32) (lf ln : Int) (hc : n ≤ il) (hn : il ≤ 65536) (wb s1 s2 nl : Nat) (sa za : Nat → Int) (hwn : 8 ≤ nl ∧ nl ≤ 1024) (stop : Int) (hst : 0 ≤ stop ∧ stop ≤ 2047) : Met l yX2_addPlainWords wX2_addPlainWords ({ frames := 3, cells := 400, slots := 8192, locals := 93 }) (va_Pc [.ref h, .int (iI (stop))] (vx_B (dC, dI) vwCl [(cB, .byte), (cI, .int)] [(h, .inr (2, [.ref tp, .ref ip, .ref wd, .int (iI (lf)), .int (iI (ln))])), (ip, .inr (0, [.int (iI ((lim : Int))), .ref iq, .int (iI ((n : Int)))])), (iq, .inl (cB, il, .inl (f))), (wd, .inr (1, [.ref wb, .ref s1, .ref s2, .int (iI (((0 : Nat) : Int)))])), (s1, .inl (cI, nl, .inl (fun k => iI (sa k)))), (s2, .inl (cI, nl, .inl (fun k => iI (za k))))] sz)) (va_Qv (fun (u : Nat × Nat × Nat × Nat × (Nat → Int) × (Nat → Int)) => (8 ≤ u.2.2.1 ∧ u.2.2.1 ≤ 1024) ∧ u.2.2.2.1 ≤ u.2.2.1 ∧ wR (zSplit (bA f n) stop (stop + 1).toNat 0 0 []) u.2.2.2.1 u.2.2.2.2.1 u.2.2.2.2.2) (fun (u : Nat × Nat × Nat × Nat × (Nat → Int) × (Nat → Int)) => vx_E (dC, dI) vwCl [(cB, .byte), (cI, .int)] (va_A [(h, .inr (2, [.ref tp, .ref ip, .ref wd, .int (iI (lf)), .int (iI (ln))])), (ip, .inr (0, [.int (iI ((lim : Int))), .ref iq, .int (iI ((n : Int)))])), (iq, .inl (cB, il, .inl (f))), (wd, .inr (1, [.ref wb, .ref s1, .ref s2, .int (iI (((0 : Nat) : Int)))])), (s1, .inl (cI, nl, .inl (fun k => iI (sa k)))), (s2, .inl (cI, nl, .inl (fun k => iI (za k))))] sz) [(h, .inr (2, [.ref tp, .ref ip, .ref wd, .int (iI (lf)), .int (iI (ln))])), (ip, .inr (0, [.int (iI ((lim : Int))), .ref iq, .int (iI ((n : Int)))])), (iq, .inl (cB, il, .inl (f))), (wd, .inr (1, [.ref wb, .ref u.1, .ref u.2.1, .int (iI ((u.2.2.2.1 : Int)))])), (u.1, .inl (cI, u.2.2.1, .inl (fun k => iI (u.2.2.2.2.1 k)))), (u.2.1, .inl (cI, u.2.2.1, .inl (fun k => iI (u.2.2.2.2.2 k))))]) (va_A [(h, .inr (2, [.ref tp, .ref ip, .ref wd, .int (iI (lf)), .int (iI (ln))])), (ip, .inr (0, [.int (iI ((lim : Int))), .ref iq, .int (iI ((n : Int)))])), (iq, .inl (cB, il, .inl (f))), (wd, .inr (1, [.ref wb, .ref s1, .ref s2, .int (iI (((0 : Nat) : Int)))])), (s1, .inl (cI, nl, .inl (fun k => iI (sa k)))), (s2, .inl (cI, nl, .inl (fun k => iI (za k))))] sz)) (400) (8192) (va_A [(h, .inr (2, [.ref tp, .ref ip, .ref wd, .int (iI (lf)), .int (iI (ln))])), (ip, .inr (0, [.int (iI ((lim : Int))), .ref iq, .int (iI ((n : Int)))])), (iq, .inl (cB, il, .inl (f))), (wd, .inr (1, [.ref wb, .ref s1, .ref s2, .int (iI (((0 : Nat) : Int)))])), (s1, .inl (cI, nl, .inl (fun k => iI (sa k)))), (s2, .inl (cI, nl, .inl (fun k => iI (za k))))] sz) := by
  refine Met.ofW (cc := cX2_addPlainWords) (maxL := 4) (ret := none) (by decide) rfl ?_
  intro p e s m args below meth c s₁ B hml hv
  obtain ⟨rfl, hsz, hP, hK, hD0⟩ := hv
  have hx := B.exec
  have hb := B.bytes
  have hr := B.returns
  have hts := atoms_spec (ws := wX2_addPlainWords) B.pre
  have hown : s.vm.findClass "RequestCutter" = some m.cls := findClass_of_methodNamed B.named
  have hlocks := B.notSynchronized
  subst hsz
  have hD := hD0.self (sz := s.heap.size)
  generalize hAe : va_A [(h, .inr (2, [.ref tp, .ref ip, .ref wd, .int (iI (lf)), .int (iI (ln))])), (ip, .inr (0, [.int (iI ((lim : Int))), .ref iq, .int (iI ((n : Int)))])), (iq, .inl (cB, il, .inl (f))), (wd, .inr (1, [.ref wb, .ref s1, .ref s2, .int (iI (((0 : Nat) : Int)))])), (s1, .inl (cI, nl, .inl (fun k => iI (sa k)))), (s2, .inl (cI, nl, .inl (fun k => iI (za k))))] s.heap.size = A at hD ⊢
  have hA : ∀ q : Nat, s.heap.size ≤ q → A q := fun q h => by rw [← hAe]; exact Or.inr h
  have hS : va_S A s.heap s.heap [] := va_S.rf
  have hP : va_P (dC, dI) vwCl [(h, .inr (2, [.ref tp, .ref ip, .ref wd, .int (iI (lf)), .int (iI (ln))])), (ip, .inr (0, [.int (iI ((lim : Int))), .ref iq, .int (iI ((n : Int)))])), (iq, .inl (cB, il, .inl (f))), (wd, .inr (1, [.ref wb, .ref s1, .ref s2, .int (iI (((0 : Nat) : Int)))])), (s1, .inl (cI, nl, .inl (fun k => iI (sa k)))), (s2, .inl (cI, nl, .inl (fun k => iI (za k))))] s.heap := hP
  have hl := lv_entry ([.ref h, .int (iI (stop))]) (n := 4) (Nat.le_of_ble_eq_true rfl)
  rw [lg_entry_eq]
  generalize (lg_sl ([.ref h, .int (iI (stop))]) ++ List.replicate (4 - (lg_sl ([.ref h, .int (iI (stop))])).length) Slot.unset).toArray = ls at hl ⊢
  have hl : lv_has ls 4 [(0, .ref h), (1, .int (iI (stop)))] := hl
  refine lv_iconst (v := iI (0)) hx hb dX2_addPlainWords_0 rfl ?_
  refine lv_istore_n (lv' := [(2, .int (iI (0))), (0, .ref h), (1, .int (iI (stop)))]) hx hb dX2_addPlainWords_1 rfl hl (by decide) rfl (fun ls hl => ?_)
  refine lv_iconst (v := iI (0)) hx hb dX2_addPlainWords_2 rfl ?_
  refine lv_istore_n (lv' := [(3, .int (iI (0))), (2, .int (iI (0))), (0, .ref h), (1, .int (iI (stop)))]) hx hb dX2_addPlainWords_3 rfl hl (by decide) rfl (fun ls hl => ?_)
  refine (?_ : ∀ (k : Nat) (i : Int) (st : Int) (s1 : Nat) (s2 : Nat) (nl : Nat) (cnt : Nat) (sa : Nat → Int) (za : Nat → Int) (C : Nat) (U : Nat) (ws : List (Int × Int)) (H : Heap) (locs : List Loc) (ls : Array Slot), i + k = stop + 1 → ((0 ≤ st ∧ st ≤ i) ∧ 2 * (cnt : Int) ≤ st) → zSplit (bA f n) stop k i st ws = (zSplit (bA f n) stop (stop + 1).toNat 0 0 []) → (8 ≤ nl ∧ nl ≤ 1024) → cnt ≤ nl → wR ws cnt sa za → ((U ≤ 4 * nl ∨ (nl = 1024 ∧ U ≤ 6144)) ∧ 16 * C ≤ U) → va_P (dC, dI) vwCl [(h, .inr (2, [.ref tp, .ref ip, .ref wd, .int (iI (lf)), .int (iI (ln))])), (ip, .inr (0, [.int (iI ((lim : Int))), .ref iq, .int (iI ((n : Int)))])), (iq, .inl (cB, il, .inl (f))), (wd, .inr (1, [.ref wb, .ref s1, .ref s2, .int (iI ((cnt : Int)))])), (s1, .inl (cI, nl, .inl (fun k => iI (sa k)))), (s2, .inl (cI, nl, .inl (fun k => iI (za k))))] H → va_D A [(h, .inr (2, [.ref tp, .ref ip, .ref wd, .int (iI (lf)), .int (iI (ln))])), (ip, .inr (0, [.int (iI ((lim : Int))), .ref iq, .int (iI ((n : Int)))])), (iq, .inl (cB, il, .inl (f))), (wd, .inr (1, [.ref wb, .ref s1, .ref s2, .int (iI ((cnt : Int)))])), (s1, .inl (cI, nl, .inl (fun k => iI (sa k)))), (s2, .inl (cI, nl, .inl (fun k => iI (za k))))] → va_S A s.heap H locs → lv_has ls 4 [(3, .int (iI (i))), (2, .int (iI (st))), (0, .ref h), (1, .int (iI (stop)))] → W p l e _ s m _ below meth c H locs C U _ (F0 m 4 ls [])) ((stop + 1).toNat) (0) (0) (s1) (s2) (nl) (0) (sa) (za) (0) (0) ([]) _ _ ls (by omega) (by omega) (rfl) (hwn) (Nat.zero_le _) (wR_0) (by omega) (hP.sub [0, 1, 2, 3, 4, 5] rfl) (hD.sub [0, 1, 2, 3, 4, 5] (by decide) rfl) hS (lv_sub hl [0, 1, 2, 3] rfl)
  intro k
  induction k with
  | zero =>
    intro i st s1 s2 nl cnt sa za C U ws H locs ls hk hi0 hz hwn hwc hwr hUU hP hD hS hl
    refine lv_iload_n hx hb dX2_addPlainWords_4 rfl (lv_at hl 0 rfl) ?_
    refine lv_iload_n hx hb dX2_addPlainWords_5 rfl (lv_at hl 3 rfl) ?_
    refine lx_icmp_gt (a := i) (b := stop) (tgt := 53) hx hb dX2_addPlainWords_6 (by decide) (by omega) (by omega) (fun cq1 => ?_) (fun cq1 => ?_)
    · have hZ : (zSplit (bA f n) stop (stop + 1).toNat 0 0 []) = ws := hz.symm
      refine W.widen (k := 400) (n := 8192) (by omega) (by omega) ?_
      exact W.vret hx hb hr (fun t ht hW => ⟨⟨(s1, s2, nl, cnt, sa, za), rfl, ⟨hwn, hwc, by rw [hZ]; exact hwr⟩, by rw [ht]; exact hP, va_K.moved hW.alike hK, hD⟩, hS.F ht⟩) hS.2.2 dX2_addPlainWords_53
    · exact absurd cq1 (by omega)
  | succ k ih =>
    intro i st s1 s2 nl cnt sa za C U ws H locs ls hk hi0 hz hwn hwc hwr hUU hP hD hS hl
    refine lv_iload_n hx hb dX2_addPlainWords_4 rfl (lv_at hl 0 rfl) ?_
    refine lv_iload_n hx hb dX2_addPlainWords_5 rfl (lv_at hl 3 rfl) ?_
    refine lx_icmp_gt (a := i) (b := stop) (tgt := 53) hx hb dX2_addPlainWords_6 (by decide) (by omega) (by omega) (fun cq2 => ?_) (fun cq2 => ?_)
    · exact absurd cq2 (by omega)
    · refine lv_iload_n hx hb dX2_addPlainWords_9 rfl (lv_at hl 0 rfl) ?_
      refine lv_iload_n hx hb dX2_addPlainWords_10 rfl (lv_at hl 3 rfl) ?_
      refine lx_icmp_eq (a := i) (b := stop) (tgt := 27) hx hb dX2_addPlainWords_11 (by decide) (by omega) (by omega) (fun cq3 => ?_) (fun cq3 => ?_)
      · refine lv_iload_n hx hb dX2_addPlainWords_27 rfl (lv_at hl 0 rfl) ?_
        refine lv_iload_n hx hb dX2_addPlainWords_28 rfl (lv_at hl 1 rfl) ?_
        refine lx_icmp_le (a := i) (b := st) (tgt := 43) hx hb dX2_addPlainWords_29 (by decide) (by omega) (by omega) (fun cq4 => ?_) (fun cq4 => ?_)
        · refine lv_iload_n hx hb dX2_addPlainWords_43 rfl (lv_at hl 0 rfl) ?_
          refine lv_iconst (v := iI (1)) hx hb dX2_addPlainWords_44 rfl ?_
          refine lx_iadd (a := i) (b := 1) hx hb dX2_addPlainWords_45 ?_
          refine lv_istore_n (lv' := [(2, .int (iI (i + 1))), (3, .int (iI (i))), (0, .ref h), (1, .int (iI (stop)))]) hx hb dX2_addPlainWords_46 rfl hl (by decide) rfl (fun ls hl => ?_)
          refine lv_iinc (v := iI (i + 1)) (lv' := [(3, .int (iI (i + 1))), (2, .int (iI (i + 1))), (0, .ref h), (1, .int (iI (stop)))]) hx hb dX2_addPlainWords_47 hl (k := 1) rfl (iI_add _ _) (by decide) rfl (fun ls hl => ?_)
          refine lv_goto (tgt := 4) hx hb dX2_addPlainWords_50 (by decide) ?_
          exact ih (i + 1) (i + 1) (s1) (s2) (nl) (cnt) (sa) (za) (C) (U) (ws) _ _ ls (by omega) (by omega) (by rw [← zSplit_s (st := st) (by omega) (by omega)]; exact hz) (hwn) (hwc) (hwr) (hUU) (hP.sub [0, 1, 2, 3, 4, 5] rfl) (hD.sub [0, 1, 2, 3, 4, 5] (by decide) rfl) hS (lv_sub hl [0, 1, 2, 3] rfl)
        · refine lv_aload_n hx hb dX2_addPlainWords_32 rfl (lv_at hl 2 rfl) ?_
          refine va_get (D := (dC, dI)) (ci := 2) (v := .ref wd) (C := "RequestCutter") (T := TX2) (N := 5) hx hb hts (fun w h => List.mem_cons_of_mem _ (inX2 w h)) hown hK hP 0 rfl rfl 2 (by decide) (hts _ (List.mem_cons_of_mem _ tw_77)) (fun _ h9 => h9) rfl dX2_addPlainWords_33 ?_
          refine lv_iload_n hx hb dX2_addPlainWords_36 rfl (lv_at hl 1 rfl) ?_
          refine lv_iload_n hx hb dX2_addPlainWords_37 rfl (lv_at hl 0 rfl) ?_
          refine lv_iload_n hx hb dX2_addPlainWords_38 rfl (lv_at hl 1 rfl) ?_
          refine lx_isub (a := i) (b := st) hx hb dX2_addPlainWords_39 ?_
          obtain ⟨m1, m2, hm12⟩ : ∃ m1 m2 : Nat, (¬ (cnt < 1024 ∧ nl ≤ cnt) ∧ m1 = 0 ∧ m2 = 0) ∨ ((cnt < 1024 ∧ nl ≤ cnt) ∧ m1 = 2 ∧ m2 = 2 * min 1024 (2 * cnt)) := by
            by_cases q : cnt < 1024 ∧ nl ≤ cnt
            · exact ⟨2, _, Or.inr ⟨q, rfl, rfl⟩⟩
            · exact ⟨0, 0, Or.inl ⟨q, rfl, rfl⟩⟩
          refine vx_Vv (As := [.int (iI (st)), .int (iI (i - st))]) (rest := []) (wr := [(h, .inr (2, [.ref tp, .ref ip, .ref wd, .int (iI (lf)), .int (iI (ln))])), (ip, .inr (0, [.int (iI ((lim : Int))), .ref iq, .int (iI ((n : Int)))])), (iq, .inl (cB, il, .inl (f)))]) (ci := 1) (q0 := 0) [3, 4, 5] [0, 1, 2] ⟨hx, hb, hml, hown, hts⟩ (c_X1_add l dC dI cB cI _ wd wb s1 s2 nl cnt sa za hwc hwn st (i - st) m1 m2 (fun q => by omega)) (cwV 2 hts (gd_V tw_187 tw_188 tw_189 tw_21 tw_190) rfl rfl rfl (by decide +kernel) ⟨Nat.le_of_ble_eq_true rfl, Nat.le_of_ble_eq_true rfl⟩) hK hP hD hS hA rfl rfl rfl rfl (by decide) rfl rfl rfl rfl hl.1 rfl (Nat.le_of_ble_eq_true rfl) dX2_addPlainWords_40 ⟨by show C + m1 ≤ 400; omega, by show U + m2 ≤ 8192; omega⟩ (fun u H locs hw hP hD hS => ?_)
          obtain ⟨s3, s4, nl1, cnt1, sa1, za1⟩ := u
          try dsimp only at hw hP hD
          obtain ⟨hn1, hc1, hnl1, hcn1, hs1, hx1⟩ := hw
          have hP : va_P (dC, dI) vwCl [(h, .inr (2, [.ref tp, .ref ip, .ref wd, .int (iI (lf)), .int (iI (ln))])), (ip, .inr (0, [.int (iI ((lim : Int))), .ref iq, .int (iI ((n : Int)))])), (iq, .inl (cB, il, .inl (f))), (wd, .inr (1, [.ref wb, .ref s3, .ref s4, .int (iI ((cnt1 : Int)))])), (s3, .inl (cI, nl1, .inl (fun k => iI (sa1 k)))), (s4, .inl (cI, nl1, .inl (fun k => iI (za1 k))))] H := hP.sub [0, 1, 2, 3, 4, 5] rfl
          have hD : va_D A [(h, .inr (2, [.ref tp, .ref ip, .ref wd, .int (iI (lf)), .int (iI (ln))])), (ip, .inr (0, [.int (iI ((lim : Int))), .ref iq, .int (iI ((n : Int)))])), (iq, .inl (cB, il, .inl (f))), (wd, .inr (1, [.ref wb, .ref s3, .ref s4, .int (iI ((cnt1 : Int)))])), (s3, .inl (cI, nl1, .inl (fun k => iI (sa1 k)))), (s4, .inl (cI, nl1, .inl (fun k => iI (za1 k))))] := hD.sub [0, 1, 2, 3, 4, 5] (by decide) rfl
          have hx4 : cnt1 = cnt + 1 := by omega
          refine lv_iload_n hx hb dX2_addPlainWords_43 rfl (lv_at hl 0 rfl) ?_
          refine lv_iconst (v := iI (1)) hx hb dX2_addPlainWords_44 rfl ?_
          refine lx_iadd (a := i) (b := 1) hx hb dX2_addPlainWords_45 ?_
          refine lv_istore_n (lv' := [(2, .int (iI (i + 1))), (3, .int (iI (i))), (0, .ref h), (1, .int (iI (stop)))]) hx hb dX2_addPlainWords_46 rfl hl (by decide) rfl (fun ls hl => ?_)
          refine lv_iinc (v := iI (i + 1)) (lv' := [(3, .int (iI (i + 1))), (2, .int (iI (i + 1))), (0, .ref h), (1, .int (iI (stop)))]) hx hb dX2_addPlainWords_47 hl (k := 1) rfl (iI_add _ _) (by decide) rfl (fun ls hl => ?_)
          refine lv_goto (tgt := 4) hx hb dX2_addPlainWords_50 (by decide) ?_
          exact ih (i + 1) (i + 1) (s3) (s4) (nl1) (cnt1) (sa1) (za1) (C + m1) (U + m2) (ws ++ [(st, i - st)]) _ _ ls (by omega) (by omega) (by rw [← zSplit_w (by omega) (by omega)]; exact hz) (hn1) (hc1) (by rw [hx4]; exact wR_add hwr hs1 (hx1 (by omega)).1 (hx1 (by omega)).2) (by omega) (hP.sub [0, 1, 2, 3, 4, 5] rfl) (hD.sub [0, 1, 2, 3, 4, 5] (by decide) rfl) hS (lv_sub hl [0, 1, 2, 3] rfl)
      · refine lv_aload_n hx hb dX2_addPlainWords_14 rfl (lv_at hl 2 rfl) ?_
        refine va_get (D := (dC, dI)) (ci := 2) (v := .ref ip) (C := "RequestCutter") (T := TX2) (N := 5) hx hb hts (fun w h => List.mem_cons_of_mem _ (inX2 w h)) hown hK hP 0 rfl rfl 1 (by decide) (hts _ (List.mem_cons_of_mem _ tw_76)) (fun _ h9 => h9) rfl dX2_addPlainWords_15 ?_
        refine lv_iload_n hx hb dX2_addPlainWords_18 rfl (lv_at hl 0 rfl) ?_
        have g_at := bA_rg f n (i)
        refine vx_Vs (As := [.int (iI (i))]) (rest := []) (ci := 0) (q0 := 0) [1, 2] ⟨hx, hb, hml, hown, hts⟩ (c_X0_at l dC dI cB cI ip iq lim il n f hc hn (i) (by omega)) (cwV 1 hts (gd_V tw_158 tw_159 tw_160 tw_20 tw_161) rfl rfl rfl (by decide +kernel) ⟨Nat.le_of_ble_eq_true rfl, Nat.le_of_ble_eq_true rfl⟩) hK hP rfl rfl rfl rfl rfl hl.1 rfl (Nat.le_of_ble_eq_true rfl) dX2_addPlainWords_19 ⟨by show C + 0 ≤ 400; omega, by show U + 0 ≤ 8192; omega⟩ (fun r hr => ?_)
        obtain rfl : r = iI (bA f n (i)) := hr
        refine lv_bipush (v := iI (32)) hx hb dX2_addPlainWords_22 (by decide) ?_
        refine lx_icmp_ne (a := bA f n (i)) (b := 32) (tgt := 47) hx hb dX2_addPlainWords_24 (by decide) (by omega) (by omega) (fun cq5 => ?_) (fun cq5 => ?_)
        · refine lv_iinc (v := iI (i + 1)) (lv' := [(3, .int (iI (i + 1))), (2, .int (iI (st))), (0, .ref h), (1, .int (iI (stop)))]) hx hb dX2_addPlainWords_47 hl (k := 0) rfl (iI_add _ _) (by decide) rfl (fun ls hl => ?_)
          refine lv_goto (tgt := 4) hx hb dX2_addPlainWords_50 (by decide) ?_
          exact ih (i + 1) (st) (s1) (s2) (nl) (cnt) (sa) (za) (C) (U) (ws) _ _ ls (by omega) (by omega) (by rw [← zSplit_n (by omega)]; exact hz) (hwn) (hwc) (hwr) (hUU) (hP.sub [0, 1, 2, 3, 4, 5] rfl) (hD.sub [0, 1, 2, 3, 4, 5] (by decide) rfl) hS (lv_sub hl [0, 1, 2, 3] rfl)
        · refine lv_iload_n hx hb dX2_addPlainWords_27 rfl (lv_at hl 0 rfl) ?_
          refine lv_iload_n hx hb dX2_addPlainWords_28 rfl (lv_at hl 1 rfl) ?_
          refine lx_icmp_le (a := i) (b := st) (tgt := 43) hx hb dX2_addPlainWords_29 (by decide) (by omega) (by omega) (fun cq6 => ?_) (fun cq6 => ?_)
          · refine lv_iload_n hx hb dX2_addPlainWords_43 rfl (lv_at hl 0 rfl) ?_
            refine lv_iconst (v := iI (1)) hx hb dX2_addPlainWords_44 rfl ?_
            refine lx_iadd (a := i) (b := 1) hx hb dX2_addPlainWords_45 ?_
            refine lv_istore_n (lv' := [(2, .int (iI (i + 1))), (3, .int (iI (i))), (0, .ref h), (1, .int (iI (stop)))]) hx hb dX2_addPlainWords_46 rfl hl (by decide) rfl (fun ls hl => ?_)
            refine lv_iinc (v := iI (i + 1)) (lv' := [(3, .int (iI (i + 1))), (2, .int (iI (i + 1))), (0, .ref h), (1, .int (iI (stop)))]) hx hb dX2_addPlainWords_47 hl (k := 1) rfl (iI_add _ _) (by decide) rfl (fun ls hl => ?_)
            refine lv_goto (tgt := 4) hx hb dX2_addPlainWords_50 (by decide) ?_
            exact ih (i + 1) (i + 1) (s1) (s2) (nl) (cnt) (sa) (za) (C) (U) (ws) _ _ ls (by omega) (by omega) (by rw [← zSplit_s (st := st) (by omega) (by omega)]; exact hz) (hwn) (hwc) (hwr) (hUU) (hP.sub [0, 1, 2, 3, 4, 5] rfl) (hD.sub [0, 1, 2, 3, 4, 5] (by decide) rfl) hS (lv_sub hl [0, 1, 2, 3] rfl)
          · refine lv_aload_n hx hb dX2_addPlainWords_32 rfl (lv_at hl 2 rfl) ?_
            refine va_get (D := (dC, dI)) (ci := 2) (v := .ref wd) (C := "RequestCutter") (T := TX2) (N := 5) hx hb hts (fun w h => List.mem_cons_of_mem _ (inX2 w h)) hown hK hP 0 rfl rfl 2 (by decide) (hts _ (List.mem_cons_of_mem _ tw_77)) (fun _ h9 => h9) rfl dX2_addPlainWords_33 ?_
            refine lv_iload_n hx hb dX2_addPlainWords_36 rfl (lv_at hl 1 rfl) ?_
            refine lv_iload_n hx hb dX2_addPlainWords_37 rfl (lv_at hl 0 rfl) ?_
            refine lv_iload_n hx hb dX2_addPlainWords_38 rfl (lv_at hl 1 rfl) ?_
            refine lx_isub (a := i) (b := st) hx hb dX2_addPlainWords_39 ?_
            obtain ⟨m1, m2, hm12⟩ : ∃ m1 m2 : Nat, (¬ (cnt < 1024 ∧ nl ≤ cnt) ∧ m1 = 0 ∧ m2 = 0) ∨ ((cnt < 1024 ∧ nl ≤ cnt) ∧ m1 = 2 ∧ m2 = 2 * min 1024 (2 * cnt)) := by
              by_cases q : cnt < 1024 ∧ nl ≤ cnt
              · exact ⟨2, _, Or.inr ⟨q, rfl, rfl⟩⟩
              · exact ⟨0, 0, Or.inl ⟨q, rfl, rfl⟩⟩
            refine vx_Vv (As := [.int (iI (st)), .int (iI (i - st))]) (rest := []) (wr := [(h, .inr (2, [.ref tp, .ref ip, .ref wd, .int (iI (lf)), .int (iI (ln))])), (ip, .inr (0, [.int (iI ((lim : Int))), .ref iq, .int (iI ((n : Int)))])), (iq, .inl (cB, il, .inl (f)))]) (ci := 1) (q0 := 0) [3, 4, 5] [0, 1, 2] ⟨hx, hb, hml, hown, hts⟩ (c_X1_add l dC dI cB cI _ wd wb s1 s2 nl cnt sa za hwc hwn st (i - st) m1 m2 (fun q => by omega)) (cwV 2 hts (gd_V tw_187 tw_188 tw_189 tw_21 tw_190) rfl rfl rfl (by decide +kernel) ⟨Nat.le_of_ble_eq_true rfl, Nat.le_of_ble_eq_true rfl⟩) hK hP hD hS hA rfl rfl rfl rfl (by decide) rfl rfl rfl rfl hl.1 rfl (Nat.le_of_ble_eq_true rfl) dX2_addPlainWords_40 ⟨by show C + m1 ≤ 400; omega, by show U + m2 ≤ 8192; omega⟩ (fun u H locs hw hP hD hS => ?_)
            obtain ⟨s3, s4, nl1, cnt1, sa1, za1⟩ := u
            try dsimp only at hw hP hD
            obtain ⟨hn1, hc1, hnl1, hcn1, hs1, hx1⟩ := hw
            have hP : va_P (dC, dI) vwCl [(h, .inr (2, [.ref tp, .ref ip, .ref wd, .int (iI (lf)), .int (iI (ln))])), (ip, .inr (0, [.int (iI ((lim : Int))), .ref iq, .int (iI ((n : Int)))])), (iq, .inl (cB, il, .inl (f))), (wd, .inr (1, [.ref wb, .ref s3, .ref s4, .int (iI ((cnt1 : Int)))])), (s3, .inl (cI, nl1, .inl (fun k => iI (sa1 k)))), (s4, .inl (cI, nl1, .inl (fun k => iI (za1 k))))] H := hP.sub [0, 1, 2, 3, 4, 5] rfl
            have hD : va_D A [(h, .inr (2, [.ref tp, .ref ip, .ref wd, .int (iI (lf)), .int (iI (ln))])), (ip, .inr (0, [.int (iI ((lim : Int))), .ref iq, .int (iI ((n : Int)))])), (iq, .inl (cB, il, .inl (f))), (wd, .inr (1, [.ref wb, .ref s3, .ref s4, .int (iI ((cnt1 : Int)))])), (s3, .inl (cI, nl1, .inl (fun k => iI (sa1 k)))), (s4, .inl (cI, nl1, .inl (fun k => iI (za1 k))))] := hD.sub [0, 1, 2, 3, 4, 5] (by decide) rfl
            have hx4 : cnt1 = cnt + 1 := by omega
            refine lv_iload_n hx hb dX2_addPlainWords_43 rfl (lv_at hl 0 rfl) ?_
            refine lv_iconst (v := iI (1)) hx hb dX2_addPlainWords_44 rfl ?_
            refine lx_iadd (a := i) (b := 1) hx hb dX2_addPlainWords_45 ?_
            refine lv_istore_n (lv' := [(2, .int (iI (i + 1))), (3, .int (iI (i))), (0, .ref h), (1, .int (iI (stop)))]) hx hb dX2_addPlainWords_46 rfl hl (by decide) rfl (fun ls hl => ?_)
            refine lv_iinc (v := iI (i + 1)) (lv' := [(3, .int (iI (i + 1))), (2, .int (iI (i + 1))), (0, .ref h), (1, .int (iI (stop)))]) hx hb dX2_addPlainWords_47 hl (k := 1) rfl (iI_add _ _) (by decide) rfl (fun ls hl => ?_)
            refine lv_goto (tgt := 4) hx hb dX2_addPlainWords_50 (by decide) ?_
            exact ih (i + 1) (i + 1) (s3) (s4) (nl1) (cnt1) (sa1) (za1) (C + m1) (U + m2) (ws ++ [(st, i - st)]) _ _ ls (by omega) (by omega) (by rw [← zSplit_w (by omega) (by omega)]; exact hz) (hn1) (hc1) (by rw [hx4]; exact wR_add hwr hs1 (hx1 (by omega)).1 (hx1 (by omega)).2) (by omega) (hP.sub [0, 1, 2, 3, 4, 5] rfl) (hD.sub [0, 1, 2, 3, 4, 5] (by decide) rfl) hS (lv_sub hl [0, 1, 2, 3] rfl)
set_option maxHeartbeats 4000000 in
set_option maxRecDepth 100000 in
/-- scanPlain() -/
theorem c_X2_scanPlain (l : Launch) (dC : Nat → ClassId) (dI : Nat → Nat → Nat) (cB cI : ClassId) (sz : Nat) (h tp ip wd iq lim il n : Nat) (f : Nat → Int32) (ln : Int) (hc : n ≤ il) (hn : il ≤ 65536) (hln : -2147483648 ≤ ln ∧ ln ≤ 2147483647) (wb s1 s2 nl : Nat) (sa za : Nat → Int) (hwn : 8 ≤ nl ∧ nl ≤ 1024) : Met l yX2_scanPlain wX2_scanPlain ({ frames := 4, cells := 400, slots := 8192, locals := 116 }) (va_Pc [.ref h] (vx_B (dC, dI) vwCl [(cB, .byte), (cI, .int)] [(h, .inr (2, [.ref tp, .ref ip, .ref wd, .int (iI (0)), .int (iI (ln))])), (ip, .inr (0, [.int (iI ((lim : Int))), .ref iq, .int (iI ((n : Int)))])), (iq, .inl (cB, il, .inl (f))), (wd, .inr (1, [.ref wb, .ref s1, .ref s2, .int (iI (((0 : Nat) : Int)))])), (s1, .inl (cI, nl, .inl (fun k => iI (sa k)))), (s2, .inl (cI, nl, .inl (fun k => iI (za k))))] sz)) (va_Qi (fun (r : Int32) (u : Int × Int × Nat × Nat × Nat × Nat × (Nat → Int) × (Nat → Int)) => r = iI (zPlain (bA f n) n).1 ∧ u.1 = (if (zPlain (bA f n) n).1 = -2 then (zPlain (bA f n) n).2.1 else 0) ∧ (-2147483648 ≤ u.2.1 ∧ u.2.1 ≤ 2147483647) ∧ (8 ≤ u.2.2.2.2.1 ∧ u.2.2.2.2.1 ≤ 1024) ∧ u.2.2.2.2.2.1 ≤ u.2.2.2.2.1 ∧ (0 ≤ (zPlain (bA f n) n).1 → wR (zPlain (bA f n) n).2.2 u.2.2.2.2.2.1 u.2.2.2.2.2.2.1 u.2.2.2.2.2.2.2)) (fun (u : Int × Int × Nat × Nat × Nat × Nat × (Nat → Int) × (Nat → Int)) => vx_E (dC, dI) vwCl [(cB, .byte), (cI, .int)] (va_A [(h, .inr (2, [.ref tp, .ref ip, .ref wd, .int (iI (0)), .int (iI (ln))])), (ip, .inr (0, [.int (iI ((lim : Int))), .ref iq, .int (iI ((n : Int)))])), (iq, .inl (cB, il, .inl (f))), (wd, .inr (1, [.ref wb, .ref s1, .ref s2, .int (iI (((0 : Nat) : Int)))])), (s1, .inl (cI, nl, .inl (fun k => iI (sa k)))), (s2, .inl (cI, nl, .inl (fun k => iI (za k))))] sz) [(h, .inr (2, [.ref tp, .ref ip, .ref wd, .int (iI (u.1)), .int (iI (u.2.1))])), (ip, .inr (0, [.int (iI ((lim : Int))), .ref iq, .int (iI ((n : Int)))])), (iq, .inl (cB, il, .inl (f))), (wd, .inr (1, [.ref wb, .ref u.2.2.1, .ref u.2.2.2.1, .int (iI ((u.2.2.2.2.2.1 : Int)))])), (u.2.2.1, .inl (cI, u.2.2.2.2.1, .inl (fun k => iI (u.2.2.2.2.2.2.1 k)))), (u.2.2.2.1, .inl (cI, u.2.2.2.2.1, .inl (fun k => iI (u.2.2.2.2.2.2.2 k))))]) (va_A [(h, .inr (2, [.ref tp, .ref ip, .ref wd, .int (iI (0)), .int (iI (ln))])), (ip, .inr (0, [.int (iI ((lim : Int))), .ref iq, .int (iI ((n : Int)))])), (iq, .inl (cB, il, .inl (f))), (wd, .inr (1, [.ref wb, .ref s1, .ref s2, .int (iI (((0 : Nat) : Int)))])), (s1, .inl (cI, nl, .inl (fun k => iI (sa k)))), (s2, .inl (cI, nl, .inl (fun k => iI (za k))))] sz)) (400) (8192) (va_A [(h, .inr (2, [.ref tp, .ref ip, .ref wd, .int (iI (0)), .int (iI (ln))])), (ip, .inr (0, [.int (iI ((lim : Int))), .ref iq, .int (iI ((n : Int)))])), (iq, .inl (cB, il, .inl (f))), (wd, .inr (1, [.ref wb, .ref s1, .ref s2, .int (iI (((0 : Nat) : Int)))])), (s1, .inl (cI, nl, .inl (fun k => iI (sa k)))), (s2, .inl (cI, nl, .inl (fun k => iI (za k))))] sz) := by
  refine Met.ofW (cc := cX2_scanPlain) (maxL := 3) (ret := (some .int)) (by decide) rfl ?_
  intro p e s m args below meth c s₁ B hml hv
  obtain ⟨rfl, hsz, hP, hK, hD0⟩ := hv
  have hx := B.exec
  have hb := B.bytes
  have hr := B.returns
  have hts := atoms_spec (ws := wX2_scanPlain) B.pre
  have hown : s.vm.findClass "RequestCutter" = some m.cls := findClass_of_methodNamed B.named
  have hlocks := B.notSynchronized
  subst hsz
  have hD := hD0.self (sz := s.heap.size)
  generalize hAe : va_A [(h, .inr (2, [.ref tp, .ref ip, .ref wd, .int (iI (0)), .int (iI (ln))])), (ip, .inr (0, [.int (iI ((lim : Int))), .ref iq, .int (iI ((n : Int)))])), (iq, .inl (cB, il, .inl (f))), (wd, .inr (1, [.ref wb, .ref s1, .ref s2, .int (iI (((0 : Nat) : Int)))])), (s1, .inl (cI, nl, .inl (fun k => iI (sa k)))), (s2, .inl (cI, nl, .inl (fun k => iI (za k))))] s.heap.size = A at hD ⊢
  have hA : ∀ q : Nat, s.heap.size ≤ q → A q := fun q h => by rw [← hAe]; exact Or.inr h
  have hS : va_S A s.heap s.heap [] := va_S.rf
  have hP : va_P (dC, dI) vwCl [(h, .inr (2, [.ref tp, .ref ip, .ref wd, .int (iI (0)), .int (iI (ln))])), (ip, .inr (0, [.int (iI ((lim : Int))), .ref iq, .int (iI ((n : Int)))])), (iq, .inl (cB, il, .inl (f))), (wd, .inr (1, [.ref wb, .ref s1, .ref s2, .int (iI (((0 : Nat) : Int)))])), (s1, .inl (cI, nl, .inl (fun k => iI (sa k)))), (s2, .inl (cI, nl, .inl (fun k => iI (za k))))] s.heap := hP
  have hl := lv_entry ([.ref h]) (n := 3) (Nat.le_of_ble_eq_true rfl)
  rw [lg_entry_eq]
  generalize (lg_sl ([.ref h]) ++ List.replicate (3 - (lg_sl ([.ref h])).length) Slot.unset).toArray = ls at hl ⊢
  have hl : lv_has ls 3 [(0, .ref h)] := hl
  refine lv_aload_n hx hb dX2_scanPlain_0 rfl (lv_at hl 0 rfl) ?_
  have gF := zLF_rg (bA f n) (min n 2048) 0
  obtain ⟨F, hF⟩ : ∃ F, F = zLF (bA f n) (min n 2048) 0 := ⟨_, rfl⟩
  rw [← hF] at gF
  refine vx_Vs (As := []) (rest := []) (ci := 2) (q0 := 0) [0, 1, 2] ⟨hx, hb, hml, hown, hts⟩ (c_X2_findLineFeed l dC dI cB cI h tp ip wd iq lim il n f 0 ln hc hn) (cwV 0 hts (gd_V tw_208 tw_210 tw_8 tw_19 tw_211) rfl rfl rfl (by decide +kernel) ⟨Nat.le_of_ble_eq_true rfl, Nat.le_of_ble_eq_true rfl⟩) hK hP rfl rfl rfl rfl rfl hl.1 rfl (Nat.le_of_ble_eq_true rfl) dX2_scanPlain_1 ⟨Nat.zero_le _, Nat.zero_le _⟩ (fun r hr => ?_)
  obtain rfl : r = iI (zLF (bA f n) (min n 2048) 0) := hr
  rw [← hF]
  refine lv_istore_n (lv' := [(1, .int (iI (F))), (0, .ref h)]) hx hb dX2_scanPlain_4 rfl hl (by decide) rfl (fun ls hl => ?_)
  refine lv_iload_n hx hb dX2_scanPlain_5 rfl (lv_at hl 0 rfl) ?_
  refine lv_iconst (v := iI (-1)) hx hb dX2_scanPlain_6 rfl ?_
  refine lx_icmp_ne (a := F) (b := -1) (tgt := 33) hx hb dX2_scanPlain_7 (by decide) (by omega) (by omega) (fun cq1 => ?_) (fun cq1 => ?_)
  · refine lv_aload_n hx hb dX2_scanPlain_33 rfl (lv_at hl 1 rfl) ?_
    refine va_get (D := (dC, dI)) (ci := 2) (v := .ref ip) (C := "RequestCutter") (T := TX2) (N := 5) hx hb hts (fun w h => List.mem_cons_of_mem _ (inX2 w h)) hown hK hP 0 rfl rfl 1 (by decide) (hts _ (List.mem_cons_of_mem _ tw_76)) (fun _ h9 => h9) rfl dX2_scanPlain_34 ?_
    refine lv_iload_n hx hb dX2_scanPlain_37 rfl (lv_at hl 0 rfl) ?_
    refine lv_iconst (v := iI (1)) hx hb dX2_scanPlain_38 rfl ?_
    refine lx_isub (a := F) (b := 1) hx hb dX2_scanPlain_39 ?_
    have g_at := bA_rg f n (F - 1)
    refine vx_Vs (As := [.int (iI (F - 1))]) (rest := []) (ci := 0) (q0 := 0) [1, 2] ⟨hx, hb, hml, hown, hts⟩ (c_X0_at l dC dI cB cI ip iq lim il n f hc hn (F - 1) (by omega)) (cwV 1 hts (gd_V tw_158 tw_159 tw_160 tw_20 tw_161) rfl rfl rfl (by decide +kernel) ⟨Nat.le_of_ble_eq_true rfl, Nat.le_of_ble_eq_true rfl⟩) hK hP rfl rfl rfl rfl rfl hl.1 rfl (Nat.le_of_ble_eq_true rfl) dX2_scanPlain_40 ⟨Nat.zero_le _, Nat.zero_le _⟩ (fun r hr => ?_)
    obtain rfl : r = iI (bA f n (F - 1)) := hr
    refine lv_bipush (v := iI (13)) hx hb dX2_scanPlain_43 (by decide) ?_
    refine lx_icmp_ne (a := bA f n (F - 1)) (b := 13) (tgt := 52) hx hb dX2_scanPlain_45 (by decide) (by omega) (by omega) (fun cq2 => ?_) (fun cq2 => ?_)
    · refine lv_iconst (v := iI (0)) hx hb dX2_scanPlain_52 rfl ?_
      refine lv_istore_n (lv' := [(2, .int (iI (0))), (1, .int (iI (F))), (0, .ref h)]) hx hb dX2_scanPlain_53 rfl hl (by decide) rfl (fun ls hl => ?_)
      refine lv_aload_n hx hb dX2_scanPlain_54 rfl (lv_at hl 2 rfl) ?_
      refine lv_iload_n hx hb dX2_scanPlain_55 rfl (lv_at hl 0 rfl) ?_
      refine lx_if_eq (a := 0) (tgt := 65) hx hb dX2_scanPlain_56 (by decide) (by omega) (fun cq3 => ?_) (fun cq3 => ?_)
      · refine lv_iload_n hx hb dX2_scanPlain_65 rfl (lv_at hl 1 rfl) ?_
        have hlast : zLast (bA f n) F = F := if_neg (by omega)
        refine vx_Vv (As := [.int (iI (F))]) (rest := []) (wr := []) (ci := 2) (q0 := 0) [0, 1, 2, 3, 4, 5] [] ⟨hx, hb, hml, hown, hts⟩ (c_X2_addPlainWords l dC dI cB cI _ h tp ip wd iq lim il n f 0 ln hc hn wb s1 s2 nl sa za hwn (F) (by omega)) (cwV 1 hts (gd_V tw_213 tw_215 tw_9 tw_19 tw_216) rfl rfl rfl (by decide +kernel) ⟨Nat.le_of_ble_eq_true rfl, Nat.le_of_ble_eq_true rfl⟩) hK hP hD hS hA rfl rfl rfl rfl (by decide) rfl rfl rfl rfl hl.1 rfl (Nat.le_of_ble_eq_true rfl) dX2_scanPlain_66 ⟨Nat.le_of_ble_eq_true rfl, Nat.le_of_ble_eq_true rfl⟩ (fun u H locs hw hP hD hS => ?_)
        obtain ⟨s3, s4, nl1, cnt1, sa1, za1⟩ := u
        try dsimp only at hw hP hD
        obtain ⟨hn1, hc1, hx1⟩ := hw
        have hP : va_P (dC, dI) vwCl [(h, .inr (2, [.ref tp, .ref ip, .ref wd, .int (iI (0)), .int (iI (ln))])), (ip, .inr (0, [.int (iI ((lim : Int))), .ref iq, .int (iI ((n : Int)))])), (iq, .inl (cB, il, .inl (f))), (wd, .inr (1, [.ref wb, .ref s3, .ref s4, .int (iI ((cnt1 : Int)))])), (s3, .inl (cI, nl1, .inl (fun k => iI (sa1 k)))), (s4, .inl (cI, nl1, .inl (fun k => iI (za1 k))))] H := hP.sub [0, 1, 2, 3, 4, 5] rfl
        have hD : va_D A [(h, .inr (2, [.ref tp, .ref ip, .ref wd, .int (iI (0)), .int (iI (ln))])), (ip, .inr (0, [.int (iI ((lim : Int))), .ref iq, .int (iI ((n : Int)))])), (iq, .inl (cB, il, .inl (f))), (wd, .inr (1, [.ref wb, .ref s3, .ref s4, .int (iI ((cnt1 : Int)))])), (s3, .inl (cI, nl1, .inl (fun k => iI (sa1 k)))), (s4, .inl (cI, nl1, .inl (fun k => iI (za1 k))))] := hD.sub [0, 1, 2, 3, 4, 5] (by decide) rfl
        refine lv_iload_n hx hb dX2_scanPlain_69 rfl (lv_at hl 1 rfl) ?_
        refine lv_iconst (v := iI (1)) hx hb dX2_scanPlain_70 rfl ?_
        refine lx_iadd (a := F) (b := 1) hx hb dX2_scanPlain_71 ?_
        have hZ : (zPlain (bA f n) n) = (F + 1, 0, zSplit (bA f n) (zLast (bA f n) F) (zLast (bA f n) F + 1).toNat 0 0 []) := by unfold zPlain; rw [← hF, if_neg (by omega)]
        rw [hlast] at hZ
        refine W.widen (k := 400) (n := 8192) (by omega) (by omega) ?_
        exact W.iret (v := iI (F + 1)) hx hb hr (fun t ht hW => ⟨⟨iI (F + 1), (0, ln, s3, s4, nl1, cnt1, sa1, za1), rfl, ⟨by rw [hZ], by rw [hZ]; exact (if_neg (by show ¬ F + 1 = -2; omega)).symm, hln, hn1, hc1, fun q => by rw [hZ]; exact hx1⟩, by rw [ht]; exact hP, va_K.moved hW.alike hK, hD⟩, hS.F ht⟩) hS.2.2 dX2_scanPlain_72
      · exact absurd cq3 (by omega)
    · refine lv_iconst (v := iI (1)) hx hb dX2_scanPlain_48 rfl ?_
      refine lv_goto (tgt := 53) hx hb dX2_scanPlain_49 (by decide) ?_
      refine lv_istore_n (lv' := [(2, .int (iI (1))), (1, .int (iI (F))), (0, .ref h)]) hx hb dX2_scanPlain_53 rfl hl (by decide) rfl (fun ls hl => ?_)
      refine lv_aload_n hx hb dX2_scanPlain_54 rfl (lv_at hl 2 rfl) ?_
      refine lv_iload_n hx hb dX2_scanPlain_55 rfl (lv_at hl 0 rfl) ?_
      refine lx_if_eq (a := 1) (tgt := 65) hx hb dX2_scanPlain_56 (by decide) (by omega) (fun cq4 => ?_) (fun cq4 => ?_)
      · exact absurd cq4 (by omega)
      · refine lv_iload_n hx hb dX2_scanPlain_59 rfl (lv_at hl 1 rfl) ?_
        refine lv_iconst (v := iI (1)) hx hb dX2_scanPlain_60 rfl ?_
        refine lx_isub (a := F) (b := 1) hx hb dX2_scanPlain_61 ?_
        refine lv_goto (tgt := 66) hx hb dX2_scanPlain_62 (by decide) ?_
        have hF1 := bA_has (f := f) (n := n) (i := F - 1) (by omega)
        have hlast : zLast (bA f n) F = F - 1 := if_pos (by omega)
        refine vx_Vv (As := [.int (iI (F - 1))]) (rest := []) (wr := []) (ci := 2) (q0 := 0) [0, 1, 2, 3, 4, 5] [] ⟨hx, hb, hml, hown, hts⟩ (c_X2_addPlainWords l dC dI cB cI _ h tp ip wd iq lim il n f 0 ln hc hn wb s1 s2 nl sa za hwn (F - 1) (by omega)) (cwV 1 hts (gd_V tw_213 tw_215 tw_9 tw_19 tw_216) rfl rfl rfl (by decide +kernel) ⟨Nat.le_of_ble_eq_true rfl, Nat.le_of_ble_eq_true rfl⟩) hK hP hD hS hA rfl rfl rfl rfl (by decide) rfl rfl rfl rfl hl.1 rfl (Nat.le_of_ble_eq_true rfl) dX2_scanPlain_66 ⟨Nat.le_of_ble_eq_true rfl, Nat.le_of_ble_eq_true rfl⟩ (fun u H locs hw hP hD hS => ?_)
        obtain ⟨s3, s4, nl1, cnt1, sa1, za1⟩ := u
        try dsimp only at hw hP hD
        obtain ⟨hn1, hc1, hx1⟩ := hw
        have hP : va_P (dC, dI) vwCl [(h, .inr (2, [.ref tp, .ref ip, .ref wd, .int (iI (0)), .int (iI (ln))])), (ip, .inr (0, [.int (iI ((lim : Int))), .ref iq, .int (iI ((n : Int)))])), (iq, .inl (cB, il, .inl (f))), (wd, .inr (1, [.ref wb, .ref s3, .ref s4, .int (iI ((cnt1 : Int)))])), (s3, .inl (cI, nl1, .inl (fun k => iI (sa1 k)))), (s4, .inl (cI, nl1, .inl (fun k => iI (za1 k))))] H := hP.sub [0, 1, 2, 3, 4, 5] rfl
        have hD : va_D A [(h, .inr (2, [.ref tp, .ref ip, .ref wd, .int (iI (0)), .int (iI (ln))])), (ip, .inr (0, [.int (iI ((lim : Int))), .ref iq, .int (iI ((n : Int)))])), (iq, .inl (cB, il, .inl (f))), (wd, .inr (1, [.ref wb, .ref s3, .ref s4, .int (iI ((cnt1 : Int)))])), (s3, .inl (cI, nl1, .inl (fun k => iI (sa1 k)))), (s4, .inl (cI, nl1, .inl (fun k => iI (za1 k))))] := hD.sub [0, 1, 2, 3, 4, 5] (by decide) rfl
        refine lv_iload_n hx hb dX2_scanPlain_69 rfl (lv_at hl 1 rfl) ?_
        refine lv_iconst (v := iI (1)) hx hb dX2_scanPlain_70 rfl ?_
        refine lx_iadd (a := F) (b := 1) hx hb dX2_scanPlain_71 ?_
        have hZ : (zPlain (bA f n) n) = (F + 1, 0, zSplit (bA f n) (zLast (bA f n) F) (zLast (bA f n) F + 1).toNat 0 0 []) := by unfold zPlain; rw [← hF, if_neg (by omega)]
        rw [hlast] at hZ
        refine W.widen (k := 400) (n := 8192) (by omega) (by omega) ?_
        exact W.iret (v := iI (F + 1)) hx hb hr (fun t ht hW => ⟨⟨iI (F + 1), (0, ln, s3, s4, nl1, cnt1, sa1, za1), rfl, ⟨by rw [hZ], by rw [hZ]; exact (if_neg (by show ¬ F + 1 = -2; omega)).symm, hln, hn1, hc1, fun q => by rw [hZ]; exact hx1⟩, by rw [ht]; exact hP, va_K.moved hW.alike hK, hD⟩, hS.F ht⟩) hS.2.2 dX2_scanPlain_72
  · refine lv_aload_n hx hb dX2_scanPlain_10 rfl (lv_at hl 1 rfl) ?_
    refine va_get (D := (dC, dI)) (ci := 2) (v := .ref ip) (C := "RequestCutter") (T := TX2) (N := 5) hx hb hts (fun w h => List.mem_cons_of_mem _ (inX2 w h)) hown hK hP 0 rfl rfl 1 (by decide) (hts _ (List.mem_cons_of_mem _ tw_76)) (fun _ h9 => h9) rfl dX2_scanPlain_11 ?_
    refine vx_Vs (As := []) (rest := []) (ci := 0) (q0 := 0) [1] ⟨hx, hb, hml, hown, hts⟩ (c_X0_count l dC dI cB cI ip iq lim n) (cwV 0 hts (gd_V tw_135 tw_136 tw_137 tw_20 tw_138) rfl rfl rfl (by decide +kernel) ⟨Nat.le_of_ble_eq_true rfl, Nat.le_of_ble_eq_true rfl⟩) hK hP rfl rfl rfl rfl rfl hl.1 rfl (Nat.le_of_ble_eq_true rfl) dX2_scanPlain_14 ⟨Nat.zero_le _, Nat.zero_le _⟩ (fun r hr => ?_)
    obtain rfl : r = iI ((n : Int)) := hr
    refine lv_sipush (v := iI (2048)) hx hb dX2_scanPlain_17 (by decide) ?_
    refine lx_icmp_lt (a := (n : Int)) (b := 2048) (tgt := 31) hx hb dX2_scanPlain_20 (by decide) (by omega) (by omega) (fun cq5 => ?_) (fun cq5 => ?_)
    · refine lv_iconst (v := iI (-1)) hx hb dX2_scanPlain_31 rfl ?_
      have hZ : (zPlain (bA f n) n) = (-1, 0, []) := by unfold zPlain; rw [← hF, if_pos (by omega), if_neg (by omega)]
      refine W.widen (k := 400) (n := 8192) (by omega) (by omega) ?_
      exact W.iret (v := iI (-1)) hx hb hr (fun t ht hW => ⟨⟨iI (-1), (0, ln, s1, s2, nl, 0, sa, za), rfl, ⟨by rw [hZ], by rw [hZ]; rfl, hln, hwn, Nat.zero_le _, fun q => by rw [hZ] at q; exact absurd q (by decide)⟩, by rw [ht]; exact hP, va_K.moved hW.alike hK, hD⟩, hS.F ht⟩) hS.2.2 dX2_scanPlain_32
    · refine lv_aload_n hx hb dX2_scanPlain_23 rfl (lv_at hl 1 rfl) ?_
      refine lv_iconst (v := iI (5)) hx hb dX2_scanPlain_24 rfl ?_
      refine vx_Vi (As := [.int (iI (5))]) (rest := []) (wr := [(ip, .inr (0, [.int (iI ((lim : Int))), .ref iq, .int (iI ((n : Int)))])), (iq, .inl (cB, il, .inl (f))), (wd, .inr (1, [.ref wb, .ref s1, .ref s2, .int (iI (((0 : Nat) : Int)))])), (s1, .inl (cI, nl, .inl (fun k => iI (sa k)))), (s2, .inl (cI, nl, .inl (fun k => iI (za k))))]) (ci := 2) (q0 := 0) [0] [1, 2, 3, 4, 5] ⟨hx, hb, hml, hown, hts⟩ (c_X2_tell l dC dI cB cI _ h tp ip wd (0) (ln) (5)) (cwV 1 hts (gd_V tw_175 tw_177 tw_3 tw_19 tw_178) rfl rfl rfl (by decide +kernel) ⟨Nat.le_of_ble_eq_true rfl, Nat.le_of_ble_eq_true rfl⟩) hK hP hD hS hA rfl rfl rfl rfl (by decide) rfl rfl rfl rfl hl.1 rfl (Nat.le_of_ble_eq_true rfl) dX2_scanPlain_25 ⟨Nat.zero_le _, Nat.zero_le _⟩ (fun r u H locs hw hP hD hS => ?_)
      obtain - := u
      try dsimp only at hw hP hD
      obtain rfl := hw
      have hP : va_P (dC, dI) vwCl [(h, .inr (2, [.ref tp, .ref ip, .ref wd, .int (iI (5)), .int (iI (ln))])), (ip, .inr (0, [.int (iI ((lim : Int))), .ref iq, .int (iI ((n : Int)))])), (iq, .inl (cB, il, .inl (f))), (wd, .inr (1, [.ref wb, .ref s1, .ref s2, .int (iI (((0 : Nat) : Int)))])), (s1, .inl (cI, nl, .inl (fun k => iI (sa k)))), (s2, .inl (cI, nl, .inl (fun k => iI (za k))))] H := hP.sub [5, 0, 1, 2, 3, 4] rfl
      have hD : va_D A [(h, .inr (2, [.ref tp, .ref ip, .ref wd, .int (iI (5)), .int (iI (ln))])), (ip, .inr (0, [.int (iI ((lim : Int))), .ref iq, .int (iI ((n : Int)))])), (iq, .inl (cB, il, .inl (f))), (wd, .inr (1, [.ref wb, .ref s1, .ref s2, .int (iI (((0 : Nat) : Int)))])), (s1, .inl (cI, nl, .inl (fun k => iI (sa k)))), (s2, .inl (cI, nl, .inl (fun k => iI (za k))))] := hD.sub [5, 0, 1, 2, 3, 4] (by decide) rfl
      refine lv_goto (tgt := 32) hx hb dX2_scanPlain_28 (by decide) ?_
      have hZ : (zPlain (bA f n) n) = (-2, 5, []) := by unfold zPlain; rw [← hF, if_pos (by omega), if_pos (by omega)]
      refine W.widen (k := 400) (n := 8192) (by omega) (by omega) ?_
      exact W.iret (v := iI (-2)) hx hb hr (fun t ht hW => ⟨⟨iI (-2), (5, ln, s1, s2, nl, 0, sa, za), rfl, ⟨by rw [hZ], by rw [hZ]; rfl, hln, hwn, Nat.zero_le _, fun q => by rw [hZ] at q; exact absurd q (by decide)⟩, by rw [ht]; exact hP, va_K.moved hW.alike hK, hD⟩, hS.F ht⟩) hS.2.2 dX2_scanPlain_32
