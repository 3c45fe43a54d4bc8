set_option maxHeartbeats 16000000 in
set_option maxRecDepth 100000 in
/-- THE LAW, from its entry: both objects are made, then every call is answered alike -/
theorem whole_start {p : Program} {e : Env} {s : State} {m : MethodId} {below : List Frame} {meth : Method} {c : Code} (l : Launch) {b L : Nat} {xs : Nat → Int32} (hL : L ≤ 3072) (C0 : lw_At p s m meth c b L xs) : W p l e room_1 s m #[Value.ref b] below meth c s.heap [] 0 0 (lw_Z below #[Value.ref b] s) (entryFrame m ([Value.ref b] : List Value).toArray 4) := by
  obtain ⟨hx, hb, hr, hml, hown0, hts0, hX, hbl, hlocks, hgv⟩ := C0
  have hts : ∀ w ∈ lw_g, w.before #[Value.ref b] s = true := fun w h => hts0 w (lw_g_in h)
  have hown : s.vm.findClass "RequestCutterLaw" = some m.cls := hown0
  obtain ⟨A, hAe⟩ : ∃ A : Nat → Prop, A = (fun q : Nat => s.heap.size ≤ q) := ⟨_, rfl⟩
  have hA : ∀ q : Nat, s.heap.size ≤ q → A q := fun q h => by rw [hAe]; exact h
  have hA2 : ∀ q : Nat, A q → s.heap.size ≤ q := fun q h => by rw [hAe] at h; exact h
  have hbA : ¬ A b := fun h => Nat.not_le.mpr hbl (hA2 b h)
  obtain ⟨c0, iS0, hKn0⟩ := u_known (C := "RequestCutter$ByteRow") (T := TX0) (N := 3) (n := 3) hts inX0 (hts _ tw_35)
  obtain ⟨c1, iS1, hKn1⟩ := u_known (C := "RequestCutter$WordRow") (T := TX1) (N := 4) (n := 4) hts inX1 (hts _ tw_53)
  obtain ⟨c2, iS2, hKn2⟩ := u_known (C := "RequestCutter") (T := TX2) (N := 5) (n := 5) hts inX2 (hts _ tw_27)
  obtain ⟨c3, iS3, hKn3⟩ := u_known (C := "RequestCutterModel") (T := TX3) (N := 11) (n := 11) hts inX3 (hts _ tw_260)
  obtain ⟨dC, dI, hKc⟩ : ∃ (dC : Nat → ClassId) (dI : Nat → Nat → Nat), ∀ (k : Nat) (q : vw_C), vwCl[k]? = some q → u_Kn s q.1 q.2.1 q.2.2 (dC k) (dI k) := by
    refine ⟨fun k => if k = 0 then c0 else if k = 1 then c1 else if k = 2 then c2 else c3, fun k => if k = 0 then iS0 else if k = 1 then iS1 else if k = 2 then iS2 else iS3, ?_⟩
    intro k q hq
    match k, hq with
    | 0, hq => cases hq; exact hKn0
    | 1, hq => cases hq; exact hKn1
    | 2, hq => cases hq; exact hKn2
    | 3, hq => cases hq; exact hKn3
    | k + 4, hq => simp [vwCl] at hq
  obtain ⟨cB, hB1, hB2⟩ := vx_arr (ty := .byte) (fun _ h => by cases h) (hts _ tw_50)
  obtain ⟨cI, hI1, hI2⟩ := vx_arr (ty := .int) (fun _ h => by cases h) (hts _ tw_74)
  have hS : va_S A s.heap s.heap [] := va_S.rf
  have hK : va_K (dC, dI) vwCl [(cB, .byte), (cI, .int)] s := by
    refine ⟨hKc, fun k q h => ?_⟩
    match k, h with
    | 0, h => cases h; exact ⟨hB1, hB2⟩
    | 1, h => cases h; exact ⟨hI1, hI2⟩
    | k + 2, h => simp at h
  have hP : va_P (dC, dI) vwCl [] s.heap := fun k q h => by simp at h
  have hD : va_D A [] := ⟨fun i j p q h => by simp at h, fun k q h => by simp at h⟩
  have hl := lv_entry ([.ref b]) (n := 4) (Nat.le_of_ble_eq_true rfl)
  rw [lg_entry_eq]
  generalize (lg_sl ([.ref b]) ++ List.replicate (4 - (lg_sl ([.ref b])).length) Slot.unset).toArray = ls at hl ⊢
  have hl : lv_has ls 4 [(0, .ref b)] := hl
  refine va_new (ci := 2) (fs := [.null, .null, .null, .int (iI (0)), .int (iI (0))]) (C := "RequestCutter") (T := TX2) (N := 5) hx hb hts inX2 tyX2 tyX2_ok hown (hts _ tw_26) (hts _ tw_27) (hts _ tw_19) hK hP hD hS hA rfl (fun j hj => by rcases (show j = 0 ∨ j = 1 ∨ j = 2 ∨ j = 3 ∨ j = 4 by omega) with rfl | rfl | rfl | rfl | rfl <;> rfl) (by show 0 + 1 ≤ 600000; omega) (by show 0 + 5 ≤ 7302250; omega) dL_law_0 (fun h H hP hD hS => ?_)
  have hP : va_P (dC, dI) vwCl [(h, .inr (2, [.null, .null, .null, .int (iI (0)), .int (iI (0))]))] H := hP
  have hD : va_D A [(h, .inr (2, [.null, .null, .null, .int (iI (0)), .int (iI (0))]))] := hD
  refine W.widen (k := 1) (n := 5) (by omega) (by omega) ?_
  refine lv_dup hx hb dL_law_3 rfl ?_
  refine vx_Iv (As := []) (rest := [.ref h]) (wr := []) [0] [] ⟨hx, hb, hml, hown, hts⟩ (c_X2_init l dC dI cB cI _ h) (cwI 0 hts (gd_IL tw_30) rfl rfl rfl (hts _ tw_19) (hts _ tw_28) (hts _ tw_29) rfl (by decide +kernel) ⟨Nat.le_of_ble_eq_true rfl, Nat.le_of_ble_eq_true rfl⟩) hK hP hD hS hA rfl rfl rfl rfl (by decide) rfl hl.1 rfl (Nat.le_of_ble_eq_true rfl) dL_law_4 ⟨by show 1 + 9 ≤ 600000; omega, by show 5 + 221 ≤ 7302250; omega⟩ (fun u H locs hw hP hD hS => ?_)
  obtain ⟨tp, tq, ip, iq, wd, wb, wq, s1, s2⟩ := u
  try dsimp only at hw hP hD
  obtain - := hw
  have hP : va_P (dC, dI) vwCl [(h, .inr (2, [.ref tp, .ref ip, .ref wd, .int (iI (0)), .int (iI (0))])), (tp, .inr (0, [.int (iI (((10240 : Nat) : Int))), .ref tq, .int (iI (0))])), (tq, .inl (cB, 64, .inl (fun _ => 0))), (ip, .inr (0, [.int (iI (((65536 : Nat) : Int))), .ref iq, .int (iI (0))])), (iq, .inl (cB, 64, .inl (fun _ => 0))), (wd, .inr (1, [.ref wb, .ref s1, .ref s2, .int (iI (0))])), (s1, .inl (cI, 8, .inl (fun _ => 0))), (s2, .inl (cI, 8, .inl (fun _ => 0))), (wb, .inr (0, [.int (iI (((65536 : Nat) : Int))), .ref wq, .int (iI (0))])), (wq, .inl (cB, 64, .inl (fun _ => 0)))] H := hP.sub [0, 1, 2, 3, 4, 5, 6, 7, 8, 9] rfl
  have hD : va_D A [(h, .inr (2, [.ref tp, .ref ip, .ref wd, .int (iI (0)), .int (iI (0))])), (tp, .inr (0, [.int (iI (((10240 : Nat) : Int))), .ref tq, .int (iI (0))])), (tq, .inl (cB, 64, .inl (fun _ => 0))), (ip, .inr (0, [.int (iI (((65536 : Nat) : Int))), .ref iq, .int (iI (0))])), (iq, .inl (cB, 64, .inl (fun _ => 0))), (wd, .inr (1, [.ref wb, .ref s1, .ref s2, .int (iI (0))])), (s1, .inl (cI, 8, .inl (fun _ => 0))), (s2, .inl (cI, 8, .inl (fun _ => 0))), (wb, .inr (0, [.int (iI (((65536 : Nat) : Int))), .ref wq, .int (iI (0))])), (wq, .inl (cB, 64, .inl (fun _ => 0)))] := hD.sub [0, 1, 2, 3, 4, 5, 6, 7, 8, 9] (by decide) rfl
  refine W.widen (k := 10) (n := 226) (by omega) (by omega) ?_
  refine lv_astore_n (lv' := [(1, .ref h), (0, .ref b)]) hx hb dL_law_7 rfl hl (by decide) rfl (fun ls hl => ?_)
  refine va_new (ci := 3) (fs := [.null, .null, .null, .null, .null, .int (iI (0)), .int (iI (0)), .int (iI (0)), .int (iI (0)), .int (iI (0)), .int (iI (0))]) (C := "RequestCutterModel") (T := TX3) (N := 11) hx hb hts inX3 tyX3 tyX3_ok hown (hts _ tw_259) (hts _ tw_260) (hts _ tw_22) hK hP hD hS hA rfl (fun j hj => by rcases (show j = 0 ∨ j = 1 ∨ j = 2 ∨ j = 3 ∨ j = 4 ∨ j = 5 ∨ j = 6 ∨ j = 7 ∨ j = 8 ∨ j = 9 ∨ j = 10 by omega) with rfl | rfl | rfl | rfl | rfl | rfl | rfl | rfl | rfl | rfl | rfl <;> rfl) (by show 10 + 1 ≤ 600000; omega) (by show 226 + 11 ≤ 7302250; omega) dL_law_8 (fun m0 H hP hD hS => ?_)
  have hP : va_P (dC, dI) vwCl [(h, .inr (2, [.ref tp, .ref ip, .ref wd, .int (iI (0)), .int (iI (0))])), (tp, .inr (0, [.int (iI (((10240 : Nat) : Int))), .ref tq, .int (iI (0))])), (tq, .inl (cB, 64, .inl (fun _ => 0))), (ip, .inr (0, [.int (iI (((65536 : Nat) : Int))), .ref iq, .int (iI (0))])), (iq, .inl (cB, 64, .inl (fun _ => 0))), (wd, .inr (1, [.ref wb, .ref s1, .ref s2, .int (iI (0))])), (s1, .inl (cI, 8, .inl (fun _ => 0))), (s2, .inl (cI, 8, .inl (fun _ => 0))), (wb, .inr (0, [.int (iI (((65536 : Nat) : Int))), .ref wq, .int (iI (0))])), (wq, .inl (cB, 64, .inl (fun _ => 0))), (m0, .inr (3, [.null, .null, .null, .null, .null, .int (iI (0)), .int (iI (0)), .int (iI (0)), .int (iI (0)), .int (iI (0)), .int (iI (0))]))] H := hP
  have hD : va_D A [(h, .inr (2, [.ref tp, .ref ip, .ref wd, .int (iI (0)), .int (iI (0))])), (tp, .inr (0, [.int (iI (((10240 : Nat) : Int))), .ref tq, .int (iI (0))])), (tq, .inl (cB, 64, .inl (fun _ => 0))), (ip, .inr (0, [.int (iI (((65536 : Nat) : Int))), .ref iq, .int (iI (0))])), (iq, .inl (cB, 64, .inl (fun _ => 0))), (wd, .inr (1, [.ref wb, .ref s1, .ref s2, .int (iI (0))])), (s1, .inl (cI, 8, .inl (fun _ => 0))), (s2, .inl (cI, 8, .inl (fun _ => 0))), (wb, .inr (0, [.int (iI (((65536 : Nat) : Int))), .ref wq, .int (iI (0))])), (wq, .inl (cB, 64, .inl (fun _ => 0))), (m0, .inr (3, [.null, .null, .null, .null, .null, .int (iI (0)), .int (iI (0)), .int (iI (0)), .int (iI (0)), .int (iI (0)), .int (iI (0))]))] := hD
  refine W.widen (k := 11) (n := 237) (by omega) (by omega) ?_
  refine lv_dup hx hb dL_law_11 rfl ?_
  refine vx_Iv (As := []) (rest := [.ref m0]) (wr := [(h, .inr (2, [.ref tp, .ref ip, .ref wd, .int (iI (0)), .int (iI (0))])), (tp, .inr (0, [.int (iI (((10240 : Nat) : Int))), .ref tq, .int (iI (0))])), (tq, .inl (cB, 64, .inl (fun _ => 0))), (ip, .inr (0, [.int (iI (((65536 : Nat) : Int))), .ref iq, .int (iI (0))])), (iq, .inl (cB, 64, .inl (fun _ => 0))), (wd, .inr (1, [.ref wb, .ref s1, .ref s2, .int (iI (0))])), (s1, .inl (cI, 8, .inl (fun _ => 0))), (s2, .inl (cI, 8, .inl (fun _ => 0))), (wb, .inr (0, [.int (iI (((65536 : Nat) : Int))), .ref wq, .int (iI (0))])), (wq, .inl (cB, 64, .inl (fun _ => 0)))]) [10] [0, 1, 2, 3, 4, 5, 6, 7, 8, 9] ⟨hx, hb, hml, hown, hts⟩ (c_X3_init l dC dI cB cI _ m0) (cwI 0 hts (gd_IL tw_263) rfl rfl rfl (hts _ tw_22) (hts _ tw_261) (hts _ tw_262) rfl (by decide +kernel) ⟨Nat.le_of_ble_eq_true rfl, Nat.le_of_ble_eq_true rfl⟩) hK hP hD hS hA rfl rfl rfl rfl (by decide) rfl hl.1 rfl (Nat.le_of_ble_eq_true rfl) dL_law_12 ⟨by show 11 + 5 ≤ 600000; omega, by show 237 + 143362 ≤ 7302250; omega⟩ (fun u H locs hw hP hD hS => ?_)
  obtain ⟨mt, mi, mk, mf, ml⟩ := u
  try dsimp only at hw hP hD
  obtain - := hw
  have hP : va_P (dC, dI) vwCl [(h, .inr (2, [.ref tp, .ref ip, .ref wd, .int (iI (0)), .int (iI (0))])), (tp, .inr (0, [.int (iI (((10240 : Nat) : Int))), .ref tq, .int (iI (0))])), (tq, .inl (cB, 64, .inl (fun _ => 0))), (ip, .inr (0, [.int (iI (((65536 : Nat) : Int))), .ref iq, .int (iI (0))])), (iq, .inl (cB, 64, .inl (fun _ => 0))), (wd, .inr (1, [.ref wb, .ref s1, .ref s2, .int (iI (0))])), (s1, .inl (cI, 8, .inl (fun _ => 0))), (s2, .inl (cI, 8, .inl (fun _ => 0))), (wb, .inr (0, [.int (iI (((65536 : Nat) : Int))), .ref wq, .int (iI (0))])), (wq, .inl (cB, 64, .inl (fun _ => 0))), (m0, .inr (3, [.ref mt, .ref mi, .ref mk, .ref mf, .ref ml, .int (iI (0)), .int (iI (0)), .int (iI (0)), .int (iI (0)), .int (iI (0)), .int (iI (0))])), (mt, .inl (cB, 10240, .inl (fun _ => 0))), (mi, .inl (cB, 65536, .inl (fun _ => 0))), (mk, .inl (cB, 65536, .inl (fun _ => 0))), (mf, .inl (cI, 1025, .inl (fun _ => 0))), (ml, .inl (cI, 1025, .inl (fun _ => 0)))] H := hP.sub [0, 1, 2, 3, 4, 5, 6, 7, 8, 9, 10, 11, 12, 13, 14, 15] rfl
  have hD : va_D A [(h, .inr (2, [.ref tp, .ref ip, .ref wd, .int (iI (0)), .int (iI (0))])), (tp, .inr (0, [.int (iI (((10240 : Nat) : Int))), .ref tq, .int (iI (0))])), (tq, .inl (cB, 64, .inl (fun _ => 0))), (ip, .inr (0, [.int (iI (((65536 : Nat) : Int))), .ref iq, .int (iI (0))])), (iq, .inl (cB, 64, .inl (fun _ => 0))), (wd, .inr (1, [.ref wb, .ref s1, .ref s2, .int (iI (0))])), (s1, .inl (cI, 8, .inl (fun _ => 0))), (s2, .inl (cI, 8, .inl (fun _ => 0))), (wb, .inr (0, [.int (iI (((65536 : Nat) : Int))), .ref wq, .int (iI (0))])), (wq, .inl (cB, 64, .inl (fun _ => 0))), (m0, .inr (3, [.ref mt, .ref mi, .ref mk, .ref mf, .ref ml, .int (iI (0)), .int (iI (0)), .int (iI (0)), .int (iI (0)), .int (iI (0)), .int (iI (0))])), (mt, .inl (cB, 10240, .inl (fun _ => 0))), (mi, .inl (cB, 65536, .inl (fun _ => 0))), (mk, .inl (cB, 65536, .inl (fun _ => 0))), (mf, .inl (cI, 1025, .inl (fun _ => 0))), (ml, .inl (cI, 1025, .inl (fun _ => 0)))] := hD.sub [0, 1, 2, 3, 4, 5, 6, 7, 8, 9, 10, 11, 12, 13, 14, 15] (by decide) rfl
  refine W.widen (k := 16) (n := 143599) (by omega) (by omega) ?_
  refine lv_astore_n (lv' := [(2, .ref m0), (1, .ref h), (0, .ref b)]) hx hb dL_law_15 rfl hl (by decide) rfl (fun ls hl => ?_)
  refine lv_iconst (v := iI (0)) hx hb dL_law_16 rfl ?_
  refine lv_istore_n (lv' := [(3, .int (iI (0))), (2, .ref m0), (1, .ref h), (0, .ref b)]) hx hb dL_law_17 rfl hl (by decide) rfl (fun ls hl => ?_)
  refine (?_ : ∀ (k : Nat) (t : Nat) (tq : Nat) (tl : Nat) (tc : Nat) (tf : Nat → Int32) (iq : Nat) (il : Nat) (n : Nat) (f : Nat → Int32) (lf : Int) (ln : Int) (s1 : Nat) (s2 : Nat) (nl : Nat) (cnt : Nat) (sa : Nat → Int) (za : Nat → Int) (wq : Nat) (wl : Nat) (wc : Nat) (wf : Nat → Int32) (tg : Nat → Int32) (g : Nat → Int32) (ks : Nat) (pa : Int) (kf : Nat → Int32) (fa : Nat → Int) (la : Nat → Int) (C : Nat) (U : Nat) (pi : Nat) (pw : Nat) (H : Heap) (locs : List Loc) (ls : Array Slot), L < 6 * t + 6 * (k + 1) → 6 * t ≤ 3072 → (tc ≤ tl ∧ tl ≤ 10240) → sb_Fit tf → sb_Fit tg → (∀ j, j < tc → tf j = tg j) → (n ≤ il ∧ il ≤ 65536) → sb_Fit f → sb_Fit g → (∀ j, j < n → f j = g j) → (-2147483648 ≤ ln ∧ ln ≤ 2147483647) → (8 ≤ nl ∧ nl ≤ 1024) → cnt ≤ nl → (wc ≤ wl ∧ wl ≤ 65536) → sb_Fit wf → sb_Fit kf → wS wc wf kf cnt sa za fa la → (C ≤ 16 + 401 * t ∧ U ≤ 150000 + 10240 * t + pi + pw) → (pi ≤ 2 * il ∨ (il = 65536 ∧ pi ≤ 196608)) → (pw ≤ 2 * wl ∨ (wl = 65536 ∧ pw ≤ 196608)) → va_P (dC, dI) vwCl [(h, .inr (2, [.ref tp, .ref ip, .ref wd, .int (iI (lf)), .int (iI (ln))])), (tp, .inr (0, [.int (iI (((10240 : Nat) : Int))), .ref tq, .int (iI ((tc : Int)))])), (tq, .inl (cB, tl, .inl (tf))), (ip, .inr (0, [.int (iI (((65536 : Nat) : Int))), .ref iq, .int (iI ((n : Int)))])), (iq, .inl (cB, il, .inl (f))), (wd, .inr (1, [.ref wb, .ref s1, .ref s2, .int (iI ((cnt : Int)))])), (s1, .inl (cI, nl, .inl (fun k => iI (sa k)))), (s2, .inl (cI, nl, .inl (fun k => iI (za k)))), (wb, .inr (0, [.int (iI (((65536 : Nat) : Int))), .ref wq, .int (iI ((wc : Int)))])), (wq, .inl (cB, wl, .inl (wf))), (m0, .inr (3, [.ref mt, .ref mi, .ref mk, .ref mf, .ref ml, .int (iI ((tc : Int))), .int (iI ((n : Int))), .int (iI ((cnt : Int))), .int (iI ((ks : Int))), .int (iI (lf)), .int (iI (pa))])), (mt, .inl (cB, 10240, .inl (tg))), (mi, .inl (cB, 65536, .inl (g))), (mk, .inl (cB, 65536, .inl (kf))), (mf, .inl (cI, 1025, .inl (fun k => iI (fa k)))), (ml, .inl (cI, 1025, .inl (fun k => iI (la k))))] H → va_D A [(h, .inr (2, [.ref tp, .ref ip, .ref wd, .int (iI (lf)), .int (iI (ln))])), (tp, .inr (0, [.int (iI (((10240 : Nat) : Int))), .ref tq, .int (iI ((tc : Int)))])), (tq, .inl (cB, tl, .inl (tf))), (ip, .inr (0, [.int (iI (((65536 : Nat) : Int))), .ref iq, .int (iI ((n : Int)))])), (iq, .inl (cB, il, .inl (f))), (wd, .inr (1, [.ref wb, .ref s1, .ref s2, .int (iI ((cnt : Int)))])), (s1, .inl (cI, nl, .inl (fun k => iI (sa k)))), (s2, .inl (cI, nl, .inl (fun k => iI (za k)))), (wb, .inr (0, [.int (iI (((65536 : Nat) : Int))), .ref wq, .int (iI ((wc : Int)))])), (wq, .inl (cB, wl, .inl (wf))), (m0, .inr (3, [.ref mt, .ref mi, .ref mk, .ref mf, .ref ml, .int (iI ((tc : Int))), .int (iI ((n : Int))), .int (iI ((cnt : Int))), .int (iI ((ks : Int))), .int (iI (lf)), .int (iI (pa))])), (mt, .inl (cB, 10240, .inl (tg))), (mi, .inl (cB, 65536, .inl (g))), (mk, .inl (cB, 65536, .inl (kf))), (mf, .inl (cI, 1025, .inl (fun k => iI (fa k)))), (ml, .inl (cI, 1025, .inl (fun k => iI (la k))))] → va_S A s.heap H locs → lv_has ls 4 [(3, .int (iI (6 * (t : Int)))), (1, .ref h), (2, .ref m0), (0, .ref b)] → W p l e _ s m _ below meth c H locs C U _ (F0 m 18 ls [])) (L) (0) (tq) (64) (0) ((fun _ => 0)) (iq) (64) (0) ((fun _ => 0)) (0) (0) (s1) (s2) (8) (0) ((fun _ => 0)) ((fun _ => 0)) (wq) (64) (0) ((fun _ => 0)) ((fun _ => 0)) ((fun _ => 0)) (0) (0) ((fun _ => 0)) ((fun _ => 0)) ((fun _ => 0)) (16) (143599) (0) (0) _ _ ls (by omega) (by omega) (by omega) (sb_fit0) (sb_fit0) (fun _ _ => rfl) (by omega) (sb_fit0) (sb_fit0) (fun _ _ => rfl) (by omega) (by omega) (by omega) (by omega) (sb_fit0) (sb_fit0) (wS_0) (by omega) (by omega) (by omega) (hP.sub [0, 1, 2, 3, 4, 5, 6, 7, 8, 9, 10, 11, 12, 13, 14, 15] rfl) (hD.sub [0, 1, 2, 3, 4, 5, 6, 7, 8, 9, 10, 11, 12, 13, 14, 15] (by decide) rfl) hS (lv_sub hl [0, 2, 1, 3] rfl)
  intro k
  induction k with
  | zero =>
    intro t tq tl tc tf iq il n f lf ln s1 s2 nl cnt sa za wq wl wc wf tg g ks pa kf fa la C U pi pw H locs ls hk ht hT hTf hTg hTe hI hIf hIg hIe hln hwn hwc hwb hwf hkf hws hCU hpi hpw hP hD hS hl
    refine lv_iload_n hx hb dL_law_18 rfl (lv_at hl 0 rfl) ?_
    refine lv_aload_n hx hb dL_law_19 rfl (lv_at hl 3 rfl) ?_
    refine va_slen hx hb hX hbl hbA hS dL_law_20 ?_
    refine lx_top (x2 := iI (L : Int)) (iI_nat L) ?_
    refine lv_bipush (v := iI (6)) hx hb dL_law_21 (by decide) ?_
    refine lx_isub (a := (L : Int)) (b := 6) hx hb dL_law_23 ?_
    refine lx_icmp_gt (a := 6 * (t : Int)) (b := ((L : Int)) - 6) (tgt := 307) hx hb dL_law_24 (by decide) (by omega) (by omega) (fun cq1 => ?_) (fun cq1 => ?_)
    · refine lv_iconst (v := 1) hx hb dL_law_307 (by decide) ?_
      refine va_forget (fun q hq => hA2 _ (hS.2.2 q hq)) ?_
      refine W.widen (k := 600000) (n := 7302250) (by omega) (by omega) ?_
      exact lw_ret hx hb hr hlocks dL_law_308
    · exact absurd cq1 (by omega)
  | succ k ih =>
    intro t tq tl tc tf iq il n f lf ln s1 s2 nl cnt sa za wq wl wc wf tg g ks pa kf fa la C U pi pw H locs ls hk ht hT hTf hTg hTe hI hIf hIg hIe hln hwn hwc hwb hwf hkf hws hCU hpi hpw hP hD hS hl
    refine lv_iload_n hx hb dL_law_18 rfl (lv_at hl 0 rfl) ?_
    refine lv_aload_n hx hb dL_law_19 rfl (lv_at hl 3 rfl) ?_
    refine va_slen hx hb hX hbl hbA hS dL_law_20 ?_
    refine lx_top (x2 := iI (L : Int)) (iI_nat L) ?_
    refine lv_bipush (v := iI (6)) hx hb dL_law_21 (by decide) ?_
    refine lx_isub (a := (L : Int)) (b := 6) hx hb dL_law_23 ?_
    refine lx_icmp_gt (a := 6 * (t : Int)) (b := ((L : Int)) - 6) (tgt := 307) hx hb dL_law_24 (by decide) (by omega) (by omega) (fun cq2 => ?_) (fun cq2 => ?_)
    · refine lv_iconst (v := 1) hx hb dL_law_307 (by decide) ?_
      refine va_forget (fun q hq => hA2 _ (hS.2.2 q hq)) ?_
      refine W.widen (k := 600000) (n := 7302250) (by omega) (by omega) ?_
      exact lw_ret hx hb hr hlocks dL_law_308
    · refine lv_aload_n hx hb dL_law_27 rfl (lv_at hl 3 rfl) ?_
      refine lv_iload_n hx hb dL_law_28 rfl (lv_at hl 0 rfl) ?_
      refine va_sld hx hb hX hbl hbA hS (iI_in (by omega)) dL_law_29 ?_
      refine lx_top (x2 := xs (6 * t + 0)) (congrArg xs (by rw [iI_cl (by omega)]; omega)) ?_
      refine lv_bipush (v := iI (15)) hx hb dL_law_30 (by decide) ?_
      refine lv_iand hx hb dL_law_32 ?_
      obtain ⟨jj, hjj, ejj⟩ := pk_andE (xs (6 * t + 0)) (m := iI 15) 4 (by decide)
      refine lx_top (x2 := iI (jj : Int)) (ejj.trans (iI_nat jj)) ?_
      rcases (show jj = 0 ∨ jj = 1 ∨ jj = 2 ∨ jj = 3 ∨ jj = 4 ∨ jj = 5 ∨ jj = 6 ∨ jj = 7 ∨ jj = 8 ∨ 9 ≤ jj by omega) with rfl | rfl | rfl | rfl | rfl | rfl | rfl | rfl | rfl | hj9
      · refine lv_tableIn (off := 51) (tgt := 84) hx hb dL_law_33 (by decide) (by decide) (by decide) (by decide) ?_
        refine lv_aload_n hx hb dL_law_84 rfl (lv_at hl 1 rfl) ?_
        refine lv_aload_n hx hb dL_law_85 rfl (lv_at hl 3 rfl) ?_
        refine lv_iload_n hx hb dL_law_86 rfl (lv_at hl 0 rfl) ?_
        refine lv_iconst (v := iI (1)) hx hb dL_law_87 rfl ?_
        refine lx_iadd (a := 6 * (t : Int)) (b := 1) hx hb dL_law_88 ?_
        refine va_sld hx hb hX hbl hbA hS (iI_in (by omega)) dL_law_89 ?_
        refine lx_top (x2 := xs (6 * t + 1)) (congrArg xs (by rw [iI_cl (by omega)]; omega)) ?_
        refine lv_aload_n hx hb dL_law_90 rfl (lv_at hl 3 rfl) ?_
        refine lv_iload_n hx hb dL_law_91 rfl (lv_at hl 0 rfl) ?_
        refine lv_iconst (v := iI (2)) hx hb dL_law_92 rfl ?_
        refine lx_iadd (a := 6 * (t : Int)) (b := 2) hx hb dL_law_93 ?_
        refine va_sld hx hb hX hbl hbA hS (iI_in (by omega)) dL_law_94 ?_
        refine lx_top (x2 := xs (6 * t + 2)) (congrArg xs (by rw [iI_cl (by omega)]; omega)) ?_
        refine lv_aload_n hx hb dL_law_95 rfl (lv_at hl 3 rfl) ?_
        refine lv_iload_n hx hb dL_law_96 rfl (lv_at hl 0 rfl) ?_
        refine lv_iconst (v := iI (3)) hx hb dL_law_97 rfl ?_
        refine lx_iadd (a := 6 * (t : Int)) (b := 3) hx hb dL_law_98 ?_
        refine va_sld hx hb hX hbl hbA hS (iI_in (by omega)) dL_law_99 ?_
        refine lx_top (x2 := xs (6 * t + 3)) (congrArg xs (by rw [iI_cl (by omega)]; omega)) ?_
        refine lv_aload_n hx hb dL_law_100 rfl (lv_at hl 3 rfl) ?_
        refine lv_iload_n hx hb dL_law_101 rfl (lv_at hl 0 rfl) ?_
        refine lv_iconst (v := iI (4)) hx hb dL_law_102 rfl ?_
        refine lx_iadd (a := 6 * (t : Int)) (b := 4) hx hb dL_law_103 ?_
        refine va_sld hx hb hX hbl hbA hS (iI_in (by omega)) dL_law_104 ?_
        refine lx_top (x2 := xs (6 * t + 4)) (congrArg xs (by rw [iI_cl (by omega)]; omega)) ?_
        refine lv_aload_n hx hb dL_law_105 rfl (lv_at hl 3 rfl) ?_
        refine lv_iload_n hx hb dL_law_106 rfl (lv_at hl 0 rfl) ?_
        refine lv_iconst (v := iI (5)) hx hb dL_law_107 rfl ?_
        refine lx_iadd (a := 6 * (t : Int)) (b := 5) hx hb dL_law_108 ?_
        refine va_sld hx hb hX hbl hbA hS (iI_in (by omega)) dL_law_109 ?_
        refine lx_top (x2 := xs (6 * t + 5)) (congrArg xs (by rw [iI_cl (by omega)]; omega)) ?_
        obtain ⟨m1, m2, hm12⟩ : ∃ m1 m2 : Nat, (¬ (tc + 20 ≤ 10240 ∧ tl < tc + 20) ∧ m1 = 0 ∧ m2 = 0) ∨ ((tc + 20 ≤ 10240 ∧ tl < tc + 20) ∧ m1 = 1 ∧ m2 = gL 10240 tl (tc + 20)) := by
          by_cases q : tc + 20 ≤ 10240 ∧ tl < tc + 20
          · exact ⟨1, _, Or.inr ⟨q, rfl, rfl⟩⟩
          · exact ⟨0, 0, Or.inl ⟨q, rfl, rfl⟩⟩
        have hg1 : gL 10240 tl (tc + 20) ≤ 10240 := by unfold gL; omega
        refine vx_Vi (As := [.int (xs (6 * t + 1)), .int (xs (6 * t + 2)), .int (xs (6 * t + 3)), .int (xs (6 * t + 4)), .int (xs (6 * t + 5))]) (rest := []) (wr := [(ip, .inr (0, [.int (iI (((65536 : Nat) : Int))), .ref iq, .int (iI ((n : Int)))])), (iq, .inl (cB, il, .inl (f))), (wd, .inr (1, [.ref wb, .ref s1, .ref s2, .int (iI ((cnt : Int)))])), (s1, .inl (cI, nl, .inl (fun k => iI (sa k)))), (s2, .inl (cI, nl, .inl (fun k => iI (za k)))), (wb, .inr (0, [.int (iI (((65536 : Nat) : Int))), .ref wq, .int (iI ((wc : Int)))])), (wq, .inl (cB, wl, .inl (wf))), (m0, .inr (3, [.ref mt, .ref mi, .ref mk, .ref mf, .ref ml, .int (iI ((tc : Int))), .int (iI ((n : Int))), .int (iI ((cnt : Int))), .int (iI ((ks : Int))), .int (iI (lf)), .int (iI (pa))])), (mt, .inl (cB, 10240, .inl (tg))), (mi, .inl (cB, 65536, .inl (g))), (mk, .inl (cB, 65536, .inl (kf))), (mf, .inl (cI, 1025, .inl (fun k => iI (fa k)))), (ml, .inl (cI, 1025, .inl (fun k => iI (la k))))]) (ci := 2) (q0 := 0) [0, 1, 2] [3, 4, 5, 6, 7, 8, 9, 10, 11, 12, 13, 14, 15] ⟨hx, hb, hml, hown, hts⟩ (c_X2_feed l dC dI cB cI _ h tp ip wd lf ln tq tl tc tf hT.1 hT.2 hTf (xs (6 * t + 1)) (xs (6 * t + 2)) (xs (6 * t + 3)) (xs (6 * t + 4)) (xs (6 * t + 5)) m1 m2 (fun q => by omega)) (cwV 5 hts (gd_VL tw_91 tw_92 tw_93 tw_19 tw_94) rfl rfl rfl (by decide +kernel) ⟨Nat.le_of_ble_eq_true rfl, Nat.le_of_ble_eq_true rfl⟩) hK hP hD hS hA rfl rfl rfl rfl (by decide) rfl rfl rfl rfl hl.1 rfl (Nat.le_of_ble_eq_true rfl) dL_law_110 ⟨by show C + m1 ≤ 600000; omega, by show U + m2 ≤ 7302250; omega⟩ (fun r u H locs hw hP hD hS => ?_)
        obtain ⟨q1, l1, c1, f1⟩ := u
        try dsimp only at hw hP hD
        obtain ⟨rfl, hf1, hcl1, hl1, hk1, hok1, hno1⟩ := hw
        have hP : va_P (dC, dI) vwCl [(h, .inr (2, [.ref tp, .ref ip, .ref wd, .int (iI (lf)), .int (iI (ln))])), (tp, .inr (0, [.int (iI (((10240 : Nat) : Int))), .ref q1, .int (iI ((c1 : Int)))])), (q1, .inl (cB, l1, .inl (f1))), (ip, .inr (0, [.int (iI (((65536 : Nat) : Int))), .ref iq, .int (iI ((n : Int)))])), (iq, .inl (cB, il, .inl (f))), (wd, .inr (1, [.ref wb, .ref s1, .ref s2, .int (iI ((cnt : Int)))])), (s1, .inl (cI, nl, .inl (fun k => iI (sa k)))), (s2, .inl (cI, nl, .inl (fun k => iI (za k)))), (wb, .inr (0, [.int (iI (((65536 : Nat) : Int))), .ref wq, .int (iI ((wc : Int)))])), (wq, .inl (cB, wl, .inl (wf))), (m0, .inr (3, [.ref mt, .ref mi, .ref mk, .ref mf, .ref ml, .int (iI ((tc : Int))), .int (iI ((n : Int))), .int (iI ((cnt : Int))), .int (iI ((ks : Int))), .int (iI (lf)), .int (iI (pa))])), (mt, .inl (cB, 10240, .inl (tg))), (mi, .inl (cB, 65536, .inl (g))), (mk, .inl (cB, 65536, .inl (kf))), (mf, .inl (cI, 1025, .inl (fun k => iI (fa k)))), (ml, .inl (cI, 1025, .inl (fun k => iI (la k))))] H := hP.sub [13, 14, 15, 0, 1, 2, 3, 4, 5, 6, 7, 8, 9, 10, 11, 12] rfl
        have hD : va_D A [(h, .inr (2, [.ref tp, .ref ip, .ref wd, .int (iI (lf)), .int (iI (ln))])), (tp, .inr (0, [.int (iI (((10240 : Nat) : Int))), .ref q1, .int (iI ((c1 : Int)))])), (q1, .inl (cB, l1, .inl (f1))), (ip, .inr (0, [.int (iI (((65536 : Nat) : Int))), .ref iq, .int (iI ((n : Int)))])), (iq, .inl (cB, il, .inl (f))), (wd, .inr (1, [.ref wb, .ref s1, .ref s2, .int (iI ((cnt : Int)))])), (s1, .inl (cI, nl, .inl (fun k => iI (sa k)))), (s2, .inl (cI, nl, .inl (fun k => iI (za k)))), (wb, .inr (0, [.int (iI (((65536 : Nat) : Int))), .ref wq, .int (iI ((wc : Int)))])), (wq, .inl (cB, wl, .inl (wf))), (m0, .inr (3, [.ref mt, .ref mi, .ref mk, .ref mf, .ref ml, .int (iI ((tc : Int))), .int (iI ((n : Int))), .int (iI ((cnt : Int))), .int (iI ((ks : Int))), .int (iI (lf)), .int (iI (pa))])), (mt, .inl (cB, 10240, .inl (tg))), (mi, .inl (cB, 65536, .inl (g))), (mk, .inl (cB, 65536, .inl (kf))), (mf, .inl (cI, 1025, .inl (fun k => iI (fa k)))), (ml, .inl (cI, 1025, .inl (fun k => iI (la k))))] := hD.sub [13, 14, 15, 0, 1, 2, 3, 4, 5, 6, 7, 8, 9, 10, 11, 12] (by decide) rfl
        refine lv_aload_n hx hb dL_law_113 rfl (lv_at hl 2 rfl) ?_
        refine lv_aload_n hx hb dL_law_114 rfl (lv_at hl 3 rfl) ?_
        refine lv_iload_n hx hb dL_law_115 rfl (lv_at hl 0 rfl) ?_
        refine lv_iconst (v := iI (1)) hx hb dL_law_116 rfl ?_
        refine lx_iadd (a := 6 * (t : Int)) (b := 1) hx hb dL_law_117 ?_
        refine va_sld hx hb hX hbl hbA hS (iI_in (by omega)) dL_law_118 ?_
        refine lx_top (x2 := xs (6 * t + 1)) (congrArg xs (by rw [iI_cl (by omega)]; omega)) ?_
        refine lv_aload_n hx hb dL_law_119 rfl (lv_at hl 3 rfl) ?_
        refine lv_iload_n hx hb dL_law_120 rfl (lv_at hl 0 rfl) ?_
        refine lv_iconst (v := iI (2)) hx hb dL_law_121 rfl ?_
        refine lx_iadd (a := 6 * (t : Int)) (b := 2) hx hb dL_law_122 ?_
        refine va_sld hx hb hX hbl hbA hS (iI_in (by omega)) dL_law_123 ?_
        refine lx_top (x2 := xs (6 * t + 2)) (congrArg xs (by rw [iI_cl (by omega)]; omega)) ?_
        refine lv_aload_n hx hb dL_law_124 rfl (lv_at hl 3 rfl) ?_
        refine lv_iload_n hx hb dL_law_125 rfl (lv_at hl 0 rfl) ?_
        refine lv_iconst (v := iI (3)) hx hb dL_law_126 rfl ?_
        refine lx_iadd (a := 6 * (t : Int)) (b := 3) hx hb dL_law_127 ?_
        refine va_sld hx hb hX hbl hbA hS (iI_in (by omega)) dL_law_128 ?_
        refine lx_top (x2 := xs (6 * t + 3)) (congrArg xs (by rw [iI_cl (by omega)]; omega)) ?_
        refine lv_aload_n hx hb dL_law_129 rfl (lv_at hl 3 rfl) ?_
        refine lv_iload_n hx hb dL_law_130 rfl (lv_at hl 0 rfl) ?_
        refine lv_iconst (v := iI (4)) hx hb dL_law_131 rfl ?_
        refine lx_iadd (a := 6 * (t : Int)) (b := 4) hx hb dL_law_132 ?_
        refine va_sld hx hb hX hbl hbA hS (iI_in (by omega)) dL_law_133 ?_
        refine lx_top (x2 := xs (6 * t + 4)) (congrArg xs (by rw [iI_cl (by omega)]; omega)) ?_
        refine lv_aload_n hx hb dL_law_134 rfl (lv_at hl 3 rfl) ?_
        refine lv_iload_n hx hb dL_law_135 rfl (lv_at hl 0 rfl) ?_
        refine lv_iconst (v := iI (5)) hx hb dL_law_136 rfl ?_
        refine lx_iadd (a := 6 * (t : Int)) (b := 5) hx hb dL_law_137 ?_
        refine va_sld hx hb hX hbl hbA hS (iI_in (by omega)) dL_law_138 ?_
        refine lx_top (x2 := xs (6 * t + 5)) (congrArg xs (by rw [iI_cl (by omega)]; omega)) ?_
        refine vx_Vi (As := [.int (xs (6 * t + 1)), .int (xs (6 * t + 2)), .int (xs (6 * t + 3)), .int (xs (6 * t + 4)), .int (xs (6 * t + 5))]) (rest := [.int (iI (if tc + 20 ≤ 10240 then 1 else 0))]) (wr := [(h, .inr (2, [.ref tp, .ref ip, .ref wd, .int (iI (lf)), .int (iI (ln))])), (tp, .inr (0, [.int (iI (((10240 : Nat) : Int))), .ref q1, .int (iI ((c1 : Int)))])), (q1, .inl (cB, l1, .inl (f1))), (ip, .inr (0, [.int (iI (((65536 : Nat) : Int))), .ref iq, .int (iI ((n : Int)))])), (iq, .inl (cB, il, .inl (f))), (wd, .inr (1, [.ref wb, .ref s1, .ref s2, .int (iI ((cnt : Int)))])), (s1, .inl (cI, nl, .inl (fun k => iI (sa k)))), (s2, .inl (cI, nl, .inl (fun k => iI (za k)))), (wb, .inr (0, [.int (iI (((65536 : Nat) : Int))), .ref wq, .int (iI ((wc : Int)))])), (wq, .inl (cB, wl, .inl (wf))), (mi, .inl (cB, 65536, .inl (g))), (mk, .inl (cB, 65536, .inl (kf))), (mf, .inl (cI, 1025, .inl (fun k => iI (fa k)))), (ml, .inl (cI, 1025, .inl (fun k => iI (la k))))]) (ci := 3) (q0 := 0) [10, 11] [0, 1, 2, 3, 4, 5, 6, 7, 8, 9, 12, 13, 14, 15] ⟨hx, hb, hml, hown, hts⟩ (c_X3_feed l dC dI cB cI _ m0 mt mi mk mf ml tc n cnt ks lf pa tg (by omega) hTg (xs (6 * t + 1)) (xs (6 * t + 2)) (xs (6 * t + 3)) (xs (6 * t + 4)) (xs (6 * t + 5))) (cwV 5 hts (gd_VL tw_300 tw_301 tw_302 tw_22 tw_303) rfl rfl rfl (by decide +kernel) ⟨Nat.le_of_ble_eq_true rfl, Nat.le_of_ble_eq_true rfl⟩) hK hP hD hS hA rfl rfl rfl rfl (by decide) rfl rfl rfl rfl hl.1 rfl (Nat.le_of_ble_eq_true rfl) dL_law_139 ⟨by show C + m1 + 0 ≤ 600000; omega, by show U + m2 + 0 ≤ 7302250; omega⟩ (fun r u H locs hw hP hD hS => ?_)
        obtain ⟨c3, g1⟩ := u
        try dsimp only at hw hP hD
        obtain ⟨rfl, hgf1, hk2, hok2, hno2⟩ := hw
        have hP : va_P (dC, dI) vwCl [(h, .inr (2, [.ref tp, .ref ip, .ref wd, .int (iI (lf)), .int (iI (ln))])), (tp, .inr (0, [.int (iI (((10240 : Nat) : Int))), .ref q1, .int (iI ((c1 : Int)))])), (q1, .inl (cB, l1, .inl (f1))), (ip, .inr (0, [.int (iI (((65536 : Nat) : Int))), .ref iq, .int (iI ((n : Int)))])), (iq, .inl (cB, il, .inl (f))), (wd, .inr (1, [.ref wb, .ref s1, .ref s2, .int (iI ((cnt : Int)))])), (s1, .inl (cI, nl, .inl (fun k => iI (sa k)))), (s2, .inl (cI, nl, .inl (fun k => iI (za k)))), (wb, .inr (0, [.int (iI (((65536 : Nat) : Int))), .ref wq, .int (iI ((wc : Int)))])), (wq, .inl (cB, wl, .inl (wf))), (m0, .inr (3, [.ref mt, .ref mi, .ref mk, .ref mf, .ref ml, .int (iI ((c3 : Int))), .int (iI ((n : Int))), .int (iI ((cnt : Int))), .int (iI ((ks : Int))), .int (iI (lf)), .int (iI (pa))])), (mt, .inl (cB, 10240, .inl (g1))), (mi, .inl (cB, 65536, .inl (g))), (mk, .inl (cB, 65536, .inl (kf))), (mf, .inl (cI, 1025, .inl (fun k => iI (fa k)))), (ml, .inl (cI, 1025, .inl (fun k => iI (la k))))] H := hP.sub [0, 1, 2, 3, 4, 5, 6, 7, 8, 9, 14, 15, 10, 11, 12, 13] rfl
        have hD : va_D A [(h, .inr (2, [.ref tp, .ref ip, .ref wd, .int (iI (lf)), .int (iI (ln))])), (tp, .inr (0, [.int (iI (((10240 : Nat) : Int))), .ref q1, .int (iI ((c1 : Int)))])), (q1, .inl (cB, l1, .inl (f1))), (ip, .inr (0, [.int (iI (((65536 : Nat) : Int))), .ref iq, .int (iI ((n : Int)))])), (iq, .inl (cB, il, .inl (f))), (wd, .inr (1, [.ref wb, .ref s1, .ref s2, .int (iI ((cnt : Int)))])), (s1, .inl (cI, nl, .inl (fun k => iI (sa k)))), (s2, .inl (cI, nl, .inl (fun k => iI (za k)))), (wb, .inr (0, [.int (iI (((65536 : Nat) : Int))), .ref wq, .int (iI ((wc : Int)))])), (wq, .inl (cB, wl, .inl (wf))), (m0, .inr (3, [.ref mt, .ref mi, .ref mk, .ref mf, .ref ml, .int (iI ((c3 : Int))), .int (iI ((n : Int))), .int (iI ((cnt : Int))), .int (iI ((ks : Int))), .int (iI (lf)), .int (iI (pa))])), (mt, .inl (cB, 10240, .inl (g1))), (mi, .inl (cB, 65536, .inl (g))), (mk, .inl (cB, 65536, .inl (kf))), (mf, .inl (cI, 1025, .inl (fun k => iI (fa k)))), (ml, .inl (cI, 1025, .inl (fun k => iI (la k))))] := hD.sub [0, 1, 2, 3, 4, 5, 6, 7, 8, 9, 14, 15, 10, 11, 12, 13] (by decide) rfl
        refine W.widen (k := C + m1) (n := U + m2) (by omega) (by omega) ?_
        refine lv_icmp_eq (tgt := 301) hx hb dL_law_142 (by decide) (fun _ => ?_) (fun q => absurd (rfl) q)
        have hc13 : c1 = c3 ∧ ∀ j, j < c1 → f1 j = g1 j := by
          by_cases q : tc + 20 ≤ 10240
          · obtain ⟨a1, a2⟩ := hok1 q
            obtain ⟨b1, b2⟩ := hok2 q
            refine ⟨a1.trans b1.symm, fun j hj => ?_⟩
            by_cases q2 : j < tc
            · rw [hk1 j q2, hk2 j q2]; exact hTe j q2
            · have a3 := a2 (j - tc) (by omega)
              have b3 := b2 (j - tc) (by omega)
              rw [show tc + (j - tc) = j by omega] at a3 b3
              rw [a3, b3]
          · have a1 := hno1 q
            have b1 := hno2 q
            exact ⟨a1.trans b1.symm, fun j hj => by rw [hk1 j (by omega), hk2 j (by omega)]; exact hTe j (by omega)⟩
        obtain ⟨rfl, hfg1⟩ := hc13
        clear hok1 hok2 hno1 hno2 hk1 hk2
        refine lv_iinc (v := iI (6 * ((t + 1 : Nat) : Int))) (lv' := [(3, .int (iI (6 * ((t + 1 : Nat) : Int)))), (1, .ref h), (2, .ref m0), (0, .ref b)]) hx hb dL_law_301 hl (k := 0) rfl ((iI_add (6 * (t : Int)) 6).trans (congrArg iI (by omega))) (by decide) rfl (fun ls hl => ?_)
        refine lv_goto (tgt := 18) hx hb dL_law_304 (by decide) ?_
        exact ih (t + 1) (q1) (l1) (c1) (f1) (iq) (il) (n) (f) (lf) (ln) (s1) (s2) (nl) (cnt) (sa) (za) (wq) (wl) (wc) (wf) (g1) (g) (ks) (pa) (kf) (fa) (la) (C + m1) (U + m2) (pi) (pw) _ _ ls (by omega) (by omega) (hcl1) (hf1) (hgf1) (hfg1) (hI) (hIf) (hIg) (hIe) (hln) (hwn) (hwc) (hwb) (hwf) (hkf) (hws) (by omega) (hpi) (hpw) (hP.sub [0, 1, 2, 3, 4, 5, 6, 7, 8, 9, 10, 11, 12, 13, 14, 15] rfl) (hD.sub [0, 1, 2, 3, 4, 5, 6, 7, 8, 9, 10, 11, 12, 13, 14, 15] (by decide) rfl) hS (lv_sub hl [0, 1, 2, 3] rfl)
      · refine lv_tableIn (off := 114) (tgt := 147) hx hb dL_law_33 (by decide) (by decide) (by decide) (by decide) ?_
        obtain ⟨z1, hz1, ez1⟩ := iI_of (xs (6 * t + 1))
        refine lv_aload_n hx hb dL_law_147 rfl (lv_at hl 1 rfl) ?_
        refine lv_aload_n hx hb dL_law_148 rfl (lv_at hl 3 rfl) ?_
        refine lv_iload_n hx hb dL_law_149 rfl (lv_at hl 0 rfl) ?_
        refine lv_iconst (v := iI (1)) hx hb dL_law_150 rfl ?_
        refine lx_iadd (a := 6 * (t : Int)) (b := 1) hx hb dL_law_151 ?_
        refine va_sld hx hb hX hbl hbA hS (iI_in (by omega)) dL_law_152 ?_
        refine lx_top (x2 := xs (6 * t + 1)) (congrArg xs (by rw [iI_cl (by omega)]; omega)) ?_
        refine lx_top (x2 := iI z1) ez1 ?_
        refine vx_Vi (As := [.int (iI (z1))]) (rest := []) (wr := [(tq, .inl (cB, tl, .inl (tf))), (ip, .inr (0, [.int (iI (((65536 : Nat) : Int))), .ref iq, .int (iI ((n : Int)))])), (iq, .inl (cB, il, .inl (f))), (wd, .inr (1, [.ref wb, .ref s1, .ref s2, .int (iI ((cnt : Int)))])), (s1, .inl (cI, nl, .inl (fun k => iI (sa k)))), (s2, .inl (cI, nl, .inl (fun k => iI (za k)))), (wb, .inr (0, [.int (iI (((65536 : Nat) : Int))), .ref wq, .int (iI ((wc : Int)))])), (wq, .inl (cB, wl, .inl (wf))), (m0, .inr (3, [.ref mt, .ref mi, .ref mk, .ref mf, .ref ml, .int (iI ((tc : Int))), .int (iI ((n : Int))), .int (iI ((cnt : Int))), .int (iI ((ks : Int))), .int (iI (lf)), .int (iI (pa))])), (mt, .inl (cB, 10240, .inl (tg))), (mi, .inl (cB, 65536, .inl (g))), (mk, .inl (cB, 65536, .inl (kf))), (mf, .inl (cI, 1025, .inl (fun k => iI (fa k)))), (ml, .inl (cI, 1025, .inl (fun k => iI (la k))))]) (ci := 2) (q0 := 0) [0, 1] [2, 3, 4, 5, 6, 7, 8, 9, 10, 11, 12, 13, 14, 15] ⟨hx, hb, hml, hown, hts⟩ (c_X2_end l dC dI cB cI _ h tp ip wd lf ln tq tc (by omega) z1 hz1) (cwV 1 hts (gd_VL tw_123 tw_124 tw_125 tw_19 tw_126) rfl rfl rfl (by decide +kernel) ⟨Nat.le_of_ble_eq_true rfl, Nat.le_of_ble_eq_true rfl⟩) hK hP hD hS hA rfl rfl rfl rfl (by decide) rfl rfl rfl rfl hl.1 rfl (Nat.le_of_ble_eq_true rfl) dL_law_153 ⟨by show C + 0 ≤ 600000; omega, by show U + 0 ≤ 7302250; omega⟩ (fun r u H locs hw hP hD hS => ?_)
        obtain ⟨c1, rfl⟩ : ∃ z, z = u := ⟨_, rfl⟩
        try dsimp only at hw hP hD
        obtain ⟨rfl, hc1⟩ := hw
        have hP : va_P (dC, dI) vwCl [(h, .inr (2, [.ref tp, .ref ip, .ref wd, .int (iI (lf)), .int (iI (ln))])), (tp, .inr (0, [.int (iI (((10240 : Nat) : Int))), .ref tq, .int (iI ((c1 : Int)))])), (tq, .inl (cB, tl, .inl (tf))), (ip, .inr (0, [.int (iI (((65536 : Nat) : Int))), .ref iq, .int (iI ((n : Int)))])), (iq, .inl (cB, il, .inl (f))), (wd, .inr (1, [.ref wb, .ref s1, .ref s2, .int (iI ((cnt : Int)))])), (s1, .inl (cI, nl, .inl (fun k => iI (sa k)))), (s2, .inl (cI, nl, .inl (fun k => iI (za k)))), (wb, .inr (0, [.int (iI (((65536 : Nat) : Int))), .ref wq, .int (iI ((wc : Int)))])), (wq, .inl (cB, wl, .inl (wf))), (m0, .inr (3, [.ref mt, .ref mi, .ref mk, .ref mf, .ref ml, .int (iI ((tc : Int))), .int (iI ((n : Int))), .int (iI ((cnt : Int))), .int (iI ((ks : Int))), .int (iI (lf)), .int (iI (pa))])), (mt, .inl (cB, 10240, .inl (tg))), (mi, .inl (cB, 65536, .inl (g))), (mk, .inl (cB, 65536, .inl (kf))), (mf, .inl (cI, 1025, .inl (fun k => iI (fa k)))), (ml, .inl (cI, 1025, .inl (fun k => iI (la k))))] H := hP.sub [14, 15, 0, 1, 2, 3, 4, 5, 6, 7, 8, 9, 10, 11, 12, 13] rfl
        have hD : va_D A [(h, .inr (2, [.ref tp, .ref ip, .ref wd, .int (iI (lf)), .int (iI (ln))])), (tp, .inr (0, [.int (iI (((10240 : Nat) : Int))), .ref tq, .int (iI ((c1 : Int)))])), (tq, .inl (cB, tl, .inl (tf))), (ip, .inr (0, [.int (iI (((65536 : Nat) : Int))), .ref iq, .int (iI ((n : Int)))])), (iq, .inl (cB, il, .inl (f))), (wd, .inr (1, [.ref wb, .ref s1, .ref s2, .int (iI ((cnt : Int)))])), (s1, .inl (cI, nl, .inl (fun k => iI (sa k)))), (s2, .inl (cI, nl, .inl (fun k => iI (za k)))), (wb, .inr (0, [.int (iI (((65536 : Nat) : Int))), .ref wq, .int (iI ((wc : Int)))])), (wq, .inl (cB, wl, .inl (wf))), (m0, .inr (3, [.ref mt, .ref mi, .ref mk, .ref mf, .ref ml, .int (iI ((tc : Int))), .int (iI ((n : Int))), .int (iI ((cnt : Int))), .int (iI ((ks : Int))), .int (iI (lf)), .int (iI (pa))])), (mt, .inl (cB, 10240, .inl (tg))), (mi, .inl (cB, 65536, .inl (g))), (mk, .inl (cB, 65536, .inl (kf))), (mf, .inl (cI, 1025, .inl (fun k => iI (fa k)))), (ml, .inl (cI, 1025, .inl (fun k => iI (la k))))] := hD.sub [14, 15, 0, 1, 2, 3, 4, 5, 6, 7, 8, 9, 10, 11, 12, 13] (by decide) rfl
        refine W.widen (k := C) (n := U) (by omega) (by omega) ?_
        refine lv_aload_n hx hb dL_law_156 rfl (lv_at hl 2 rfl) ?_
        refine lv_aload_n hx hb dL_law_157 rfl (lv_at hl 3 rfl) ?_
        refine lv_iload_n hx hb dL_law_158 rfl (lv_at hl 0 rfl) ?_
        refine lv_iconst (v := iI (1)) hx hb dL_law_159 rfl ?_
        refine lx_iadd (a := 6 * (t : Int)) (b := 1) hx hb dL_law_160 ?_
        refine va_sld hx hb hX hbl hbA hS (iI_in (by omega)) dL_law_161 ?_
        refine lx_top (x2 := xs (6 * t + 1)) (congrArg xs (by rw [iI_cl (by omega)]; omega)) ?_
        refine lx_top (x2 := iI z1) ez1 ?_
        refine vx_Vi (As := [.int (iI (z1))]) (rest := [.int (iI (if 0 ≤ z1 ∧ z1 ≤ (tc : Int) then 1 else 0))]) (wr := [(h, .inr (2, [.ref tp, .ref ip, .ref wd, .int (iI (lf)), .int (iI (ln))])), (tp, .inr (0, [.int (iI (((10240 : Nat) : Int))), .ref tq, .int (iI ((c1 : Int)))])), (tq, .inl (cB, tl, .inl (tf))), (ip, .inr (0, [.int (iI (((65536 : Nat) : Int))), .ref iq, .int (iI ((n : Int)))])), (iq, .inl (cB, il, .inl (f))), (wd, .inr (1, [.ref wb, .ref s1, .ref s2, .int (iI ((cnt : Int)))])), (s1, .inl (cI, nl, .inl (fun k => iI (sa k)))), (s2, .inl (cI, nl, .inl (fun k => iI (za k)))), (wb, .inr (0, [.int (iI (((65536 : Nat) : Int))), .ref wq, .int (iI ((wc : Int)))])), (wq, .inl (cB, wl, .inl (wf))), (mt, .inl (cB, 10240, .inl (tg))), (mi, .inl (cB, 65536, .inl (g))), (mk, .inl (cB, 65536, .inl (kf))), (mf, .inl (cI, 1025, .inl (fun k => iI (fa k)))), (ml, .inl (cI, 1025, .inl (fun k => iI (la k))))]) (ci := 3) (q0 := 0) [10] [0, 1, 2, 3, 4, 5, 6, 7, 8, 9, 11, 12, 13, 14, 15] ⟨hx, hb, hml, hown, hts⟩ (c_X3_end l dC dI cB cI _ m0 mt mi mk mf ml tc n cnt ks lf pa (by omega) z1 hz1) (cwV 1 hts (gd_VL tw_308 tw_309 tw_310 tw_22 tw_311) rfl rfl rfl (by decide +kernel) ⟨Nat.le_of_ble_eq_true rfl, Nat.le_of_ble_eq_true rfl⟩) hK hP hD hS hA rfl rfl rfl rfl (by decide) rfl rfl rfl rfl hl.1 rfl (Nat.le_of_ble_eq_true rfl) dL_law_162 ⟨by show C + 0 ≤ 600000; omega, by show U + 0 ≤ 7302250; omega⟩ (fun r u H locs hw hP hD hS => ?_)
        obtain ⟨c3, rfl⟩ : ∃ z, z = u := ⟨_, rfl⟩
        try dsimp only at hw hP hD
        obtain ⟨rfl, hc3⟩ := hw
        have hP : va_P (dC, dI) vwCl [(h, .inr (2, [.ref tp, .ref ip, .ref wd, .int (iI (lf)), .int (iI (ln))])), (tp, .inr (0, [.int (iI (((10240 : Nat) : Int))), .ref tq, .int (iI ((c1 : Int)))])), (tq, .inl (cB, tl, .inl (tf))), (ip, .inr (0, [.int (iI (((65536 : Nat) : Int))), .ref iq, .int (iI ((n : Int)))])), (iq, .inl (cB, il, .inl (f))), (wd, .inr (1, [.ref wb, .ref s1, .ref s2, .int (iI ((cnt : Int)))])), (s1, .inl (cI, nl, .inl (fun k => iI (sa k)))), (s2, .inl (cI, nl, .inl (fun k => iI (za k)))), (wb, .inr (0, [.int (iI (((65536 : Nat) : Int))), .ref wq, .int (iI ((wc : Int)))])), (wq, .inl (cB, wl, .inl (wf))), (m0, .inr (3, [.ref mt, .ref mi, .ref mk, .ref mf, .ref ml, .int (iI ((c3 : Int))), .int (iI ((n : Int))), .int (iI ((cnt : Int))), .int (iI ((ks : Int))), .int (iI (lf)), .int (iI (pa))])), (mt, .inl (cB, 10240, .inl (tg))), (mi, .inl (cB, 65536, .inl (g))), (mk, .inl (cB, 65536, .inl (kf))), (mf, .inl (cI, 1025, .inl (fun k => iI (fa k)))), (ml, .inl (cI, 1025, .inl (fun k => iI (la k))))] H := hP.sub [0, 1, 2, 3, 4, 5, 6, 7, 8, 9, 15, 10, 11, 12, 13, 14] rfl
        have hD : va_D A [(h, .inr (2, [.ref tp, .ref ip, .ref wd, .int (iI (lf)), .int (iI (ln))])), (tp, .inr (0, [.int (iI (((10240 : Nat) : Int))), .ref tq, .int (iI ((c1 : Int)))])), (tq, .inl (cB, tl, .inl (tf))), (ip, .inr (0, [.int (iI (((65536 : Nat) : Int))), .ref iq, .int (iI ((n : Int)))])), (iq, .inl (cB, il, .inl (f))), (wd, .inr (1, [.ref wb, .ref s1, .ref s2, .int (iI ((cnt : Int)))])), (s1, .inl (cI, nl, .inl (fun k => iI (sa k)))), (s2, .inl (cI, nl, .inl (fun k => iI (za k)))), (wb, .inr (0, [.int (iI (((65536 : Nat) : Int))), .ref wq, .int (iI ((wc : Int)))])), (wq, .inl (cB, wl, .inl (wf))), (m0, .inr (3, [.ref mt, .ref mi, .ref mk, .ref mf, .ref ml, .int (iI ((c3 : Int))), .int (iI ((n : Int))), .int (iI ((cnt : Int))), .int (iI ((ks : Int))), .int (iI (lf)), .int (iI (pa))])), (mt, .inl (cB, 10240, .inl (tg))), (mi, .inl (cB, 65536, .inl (g))), (mk, .inl (cB, 65536, .inl (kf))), (mf, .inl (cI, 1025, .inl (fun k => iI (fa k)))), (ml, .inl (cI, 1025, .inl (fun k => iI (la k))))] := hD.sub [0, 1, 2, 3, 4, 5, 6, 7, 8, 9, 15, 10, 11, 12, 13, 14] (by decide) rfl
        refine W.widen (k := C) (n := U) (by omega) (by omega) ?_
        refine lv_icmp_eq (tgt := 301) hx hb dL_law_165 (by decide) (fun _ => ?_) (fun q => absurd (rfl) q)
        obtain rfl : c1 = c3 := hc1.trans hc3.symm
        have hcle : c1 ≤ tc := by rw [hc1]; by_cases q : 0 ≤ z1 ∧ z1 ≤ (tc : Int); rw [if_pos q]; omega; rw [if_neg q]; exact Nat.le_refl _
        clear hc1 hc3
        refine lv_iinc (v := iI (6 * ((t + 1 : Nat) : Int))) (lv' := [(3, .int (iI (6 * ((t + 1 : Nat) : Int)))), (1, .ref h), (2, .ref m0), (0, .ref b)]) hx hb dL_law_301 hl (k := 0) rfl ((iI_add (6 * (t : Int)) 6).trans (congrArg iI (by omega))) (by decide) rfl (fun ls hl => ?_)
        refine lv_goto (tgt := 18) hx hb dL_law_304 (by decide) ?_
        exact ih (t + 1) (tq) (tl) (c1) (tf) (iq) (il) (n) (f) (lf) (ln) (s1) (s2) (nl) (cnt) (sa) (za) (wq) (wl) (wc) (wf) (tg) (g) (ks) (pa) (kf) (fa) (la) (C) (U) (pi) (pw) _ _ ls (by omega) (by omega) (by omega) (hTf) (hTg) (fun j hj => hTe j (by omega)) (hI) (hIf) (hIg) (hIe) (hln) (hwn) (hwc) (hwb) (hwf) (hkf) (hws) (by omega) (hpi) (hpw) (hP.sub [0, 1, 2, 3, 4, 5, 6, 7, 8, 9, 10, 11, 12, 13, 14, 15] rfl) (hD.sub [0, 1, 2, 3, 4, 5, 6, 7, 8, 9, 10, 11, 12, 13, 14, 15] (by decide) rfl) hS (lv_sub hl [0, 1, 2, 3] rfl)
      · refine lv_tableIn (off := 137) (tgt := 170) hx hb dL_law_33 (by decide) (by decide) (by decide) (by decide) ?_
        refine lv_aload_n hx hb dL_law_170 rfl (lv_at hl 1 rfl) ?_
        obtain ⟨m1, m2, hm12⟩ : ∃ m1 m2 : Nat, (¬ (n + tc ≤ 65536 ∧ il < n + tc) ∧ m1 = 0 ∧ m2 = 0) ∨ ((n + tc ≤ 65536 ∧ il < n + tc) ∧ m1 = 1 ∧ m2 = gL 65536 il (n + tc)) := by
          by_cases q : n + tc ≤ 65536 ∧ il < n + tc
          · exact ⟨1, _, Or.inr ⟨q, rfl, rfl⟩⟩
          · exact ⟨0, 0, Or.inl ⟨q, rfl, rfl⟩⟩
        have hg1 : gL 65536 il (n + tc) ≤ 65536 := by unfold gL; omega
        refine vx_Vi (As := []) (rest := []) (wr := [(wd, .inr (1, [.ref wb, .ref s1, .ref s2, .int (iI ((cnt : Int)))])), (s1, .inl (cI, nl, .inl (fun k => iI (sa k)))), (s2, .inl (cI, nl, .inl (fun k => iI (za k)))), (wb, .inr (0, [.int (iI (((65536 : Nat) : Int))), .ref wq, .int (iI ((wc : Int)))])), (wq, .inl (cB, wl, .inl (wf))), (m0, .inr (3, [.ref mt, .ref mi, .ref mk, .ref mf, .ref ml, .int (iI ((tc : Int))), .int (iI ((n : Int))), .int (iI ((cnt : Int))), .int (iI ((ks : Int))), .int (iI (lf)), .int (iI (pa))])), (mt, .inl (cB, 10240, .inl (tg))), (mi, .inl (cB, 65536, .inl (g))), (mk, .inl (cB, 65536, .inl (kf))), (mf, .inl (cI, 1025, .inl (fun k => iI (fa k)))), (ml, .inl (cI, 1025, .inl (fun k => iI (la k))))]) (ci := 2) (q0 := 0) [0, 1, 2, 3, 4] [5, 6, 7, 8, 9, 10, 11, 12, 13, 14, 15] ⟨hx, hb, hml, hown, hts⟩ (c_X2_arrive l dC dI cB cI _ h tp ip wd lf ln tq tl tc tf hT.1 hT.2 hTf iq il n f hI.1 hI.2 hIf m1 m2 (fun q => by omega)) (cwV 0 hts (gd_VL tw_131 tw_132 tw_133 tw_19 tw_134) rfl rfl rfl (by decide +kernel) ⟨Nat.le_of_ble_eq_true rfl, Nat.le_of_ble_eq_true rfl⟩) hK hP hD hS hA rfl rfl rfl rfl (by decide) rfl rfl rfl rfl hl.1 rfl (Nat.le_of_ble_eq_true rfl) dL_law_171 ⟨by show C + m1 ≤ 600000; omega, by show U + m2 ≤ 7302250; omega⟩ (fun r u H locs hw hP hD hS => ?_)
        obtain ⟨q1, l1, n1, f1⟩ := u
        try dsimp only at hw hP hD
        obtain ⟨rfl, hf1, hcl1, hl1, hk1, hok1, hno1⟩ := hw
        have hP : va_P (dC, dI) vwCl [(h, .inr (2, [.ref tp, .ref ip, .ref wd, .int (iI (lf)), .int (iI (ln))])), (tp, .inr (0, [.int (iI (((10240 : Nat) : Int))), .ref tq, .int (iI (((0 : Nat) : Int)))])), (tq, .inl (cB, tl, .inl (tf))), (ip, .inr (0, [.int (iI (((65536 : Nat) : Int))), .ref q1, .int (iI ((n1 : Int)))])), (q1, .inl (cB, l1, .inl (f1))), (wd, .inr (1, [.ref wb, .ref s1, .ref s2, .int (iI ((cnt : Int)))])), (s1, .inl (cI, nl, .inl (fun k => iI (sa k)))), (s2, .inl (cI, nl, .inl (fun k => iI (za k)))), (wb, .inr (0, [.int (iI (((65536 : Nat) : Int))), .ref wq, .int (iI ((wc : Int)))])), (wq, .inl (cB, wl, .inl (wf))), (m0, .inr (3, [.ref mt, .ref mi, .ref mk, .ref mf, .ref ml, .int (iI ((tc : Int))), .int (iI ((n : Int))), .int (iI ((cnt : Int))), .int (iI ((ks : Int))), .int (iI (lf)), .int (iI (pa))])), (mt, .inl (cB, 10240, .inl (tg))), (mi, .inl (cB, 65536, .inl (g))), (mk, .inl (cB, 65536, .inl (kf))), (mf, .inl (cI, 1025, .inl (fun k => iI (fa k)))), (ml, .inl (cI, 1025, .inl (fun k => iI (la k))))] H := hP.sub [11, 12, 13, 14, 15, 0, 1, 2, 3, 4, 5, 6, 7, 8, 9, 10] rfl
        have hD : va_D A [(h, .inr (2, [.ref tp, .ref ip, .ref wd, .int (iI (lf)), .int (iI (ln))])), (tp, .inr (0, [.int (iI (((10240 : Nat) : Int))), .ref tq, .int (iI (((0 : Nat) : Int)))])), (tq, .inl (cB, tl, .inl (tf))), (ip, .inr (0, [.int (iI (((65536 : Nat) : Int))), .ref q1, .int (iI ((n1 : Int)))])), (q1, .inl (cB, l1, .inl (f1))), (wd, .inr (1, [.ref wb, .ref s1, .ref s2, .int (iI ((cnt : Int)))])), (s1, .inl (cI, nl, .inl (fun k => iI (sa k)))), (s2, .inl (cI, nl, .inl (fun k => iI (za k)))), (wb, .inr (0, [.int (iI (((65536 : Nat) : Int))), .ref wq, .int (iI ((wc : Int)))])), (wq, .inl (cB, wl, .inl (wf))), (m0, .inr (3, [.ref mt, .ref mi, .ref mk, .ref mf, .ref ml, .int (iI ((tc : Int))), .int (iI ((n : Int))), .int (iI ((cnt : Int))), .int (iI ((ks : Int))), .int (iI (lf)), .int (iI (pa))])), (mt, .inl (cB, 10240, .inl (tg))), (mi, .inl (cB, 65536, .inl (g))), (mk, .inl (cB, 65536, .inl (kf))), (mf, .inl (cI, 1025, .inl (fun k => iI (fa k)))), (ml, .inl (cI, 1025, .inl (fun k => iI (la k))))] := hD.sub [11, 12, 13, 14, 15, 0, 1, 2, 3, 4, 5, 6, 7, 8, 9, 10] (by decide) rfl
        refine lv_aload_n hx hb dL_law_174 rfl (lv_at hl 2 rfl) ?_
        refine vx_Vi (As := []) (rest := [.int (iI (if n + tc ≤ 65536 then ((n + tc : Nat) : Int) else -1))]) (wr := [(h, .inr (2, [.ref tp, .ref ip, .ref wd, .int (iI (lf)), .int (iI (ln))])), (tp, .inr (0, [.int (iI (((10240 : Nat) : Int))), .ref tq, .int (iI (((0 : Nat) : Int)))])), (tq, .inl (cB, tl, .inl (tf))), (ip, .inr (0, [.int (iI (((65536 : Nat) : Int))), .ref q1, .int (iI ((n1 : Int)))])), (q1, .inl (cB, l1, .inl (f1))), (wd, .inr (1, [.ref wb, .ref s1, .ref s2, .int (iI ((cnt : Int)))])), (s1, .inl (cI, nl, .inl (fun k => iI (sa k)))), (s2, .inl (cI, nl, .inl (fun k => iI (za k)))), (wb, .inr (0, [.int (iI (((65536 : Nat) : Int))), .ref wq, .int (iI ((wc : Int)))])), (wq, .inl (cB, wl, .inl (wf))), (mk, .inl (cB, 65536, .inl (kf))), (mf, .inl (cI, 1025, .inl (fun k => iI (fa k)))), (ml, .inl (cI, 1025, .inl (fun k => iI (la k))))]) (ci := 3) (q0 := 0) [10, 11, 12] [0, 1, 2, 3, 4, 5, 6, 7, 8, 9, 13, 14, 15] ⟨hx, hb, hml, hown, hts⟩ (c_X3_arrive l dC dI cB cI _ m0 mt mi mk mf ml tc n cnt ks lf pa tg g (by omega) (by omega) hTg hIg) (cwV 0 hts (gd_VL tw_312 tw_313 tw_314 tw_22 tw_315) rfl rfl rfl (by decide +kernel) ⟨Nat.le_of_ble_eq_true rfl, Nat.le_of_ble_eq_true rfl⟩) hK hP hD hS hA rfl rfl rfl rfl (by decide) rfl rfl rfl rfl hl.1 rfl (Nat.le_of_ble_eq_true rfl) dL_law_175 ⟨by show C + m1 + 0 ≤ 600000; omega, by show U + m2 + 0 ≤ 7302250; omega⟩ (fun r u H locs hw hP hD hS => ?_)
        obtain ⟨n2, g1⟩ := u
        try dsimp only at hw hP hD
        obtain ⟨rfl, hgf1, hk2, hok2, hno2⟩ := hw
        have hP : va_P (dC, dI) vwCl [(h, .inr (2, [.ref tp, .ref ip, .ref wd, .int (iI (lf)), .int (iI (ln))])), (tp, .inr (0, [.int (iI (((10240 : Nat) : Int))), .ref tq, .int (iI (((0 : Nat) : Int)))])), (tq, .inl (cB, tl, .inl (tf))), (ip, .inr (0, [.int (iI (((65536 : Nat) : Int))), .ref q1, .int (iI ((n1 : Int)))])), (q1, .inl (cB, l1, .inl (f1))), (wd, .inr (1, [.ref wb, .ref s1, .ref s2, .int (iI ((cnt : Int)))])), (s1, .inl (cI, nl, .inl (fun k => iI (sa k)))), (s2, .inl (cI, nl, .inl (fun k => iI (za k)))), (wb, .inr (0, [.int (iI (((65536 : Nat) : Int))), .ref wq, .int (iI ((wc : Int)))])), (wq, .inl (cB, wl, .inl (wf))), (m0, .inr (3, [.ref mt, .ref mi, .ref mk, .ref mf, .ref ml, .int (iI (((0 : Nat) : Int))), .int (iI ((n2 : Int))), .int (iI ((cnt : Int))), .int (iI ((ks : Int))), .int (iI (lf)), .int (iI (pa))])), (mt, .inl (cB, 10240, .inl (tg))), (mi, .inl (cB, 65536, .inl (g1))), (mk, .inl (cB, 65536, .inl (kf))), (mf, .inl (cI, 1025, .inl (fun k => iI (fa k)))), (ml, .inl (cI, 1025, .inl (fun k => iI (la k))))] H := hP.sub [0, 1, 2, 3, 4, 5, 6, 7, 8, 9, 13, 14, 15, 10, 11, 12] rfl
        have hD : va_D A [(h, .inr (2, [.ref tp, .ref ip, .ref wd, .int (iI (lf)), .int (iI (ln))])), (tp, .inr (0, [.int (iI (((10240 : Nat) : Int))), .ref tq, .int (iI (((0 : Nat) : Int)))])), (tq, .inl (cB, tl, .inl (tf))), (ip, .inr (0, [.int (iI (((65536 : Nat) : Int))), .ref q1, .int (iI ((n1 : Int)))])), (q1, .inl (cB, l1, .inl (f1))), (wd, .inr (1, [.ref wb, .ref s1, .ref s2, .int (iI ((cnt : Int)))])), (s1, .inl (cI, nl, .inl (fun k => iI (sa k)))), (s2, .inl (cI, nl, .inl (fun k => iI (za k)))), (wb, .inr (0, [.int (iI (((65536 : Nat) : Int))), .ref wq, .int (iI ((wc : Int)))])), (wq, .inl (cB, wl, .inl (wf))), (m0, .inr (3, [.ref mt, .ref mi, .ref mk, .ref mf, .ref ml, .int (iI (((0 : Nat) : Int))), .int (iI ((n2 : Int))), .int (iI ((cnt : Int))), .int (iI ((ks : Int))), .int (iI (lf)), .int (iI (pa))])), (mt, .inl (cB, 10240, .inl (tg))), (mi, .inl (cB, 65536, .inl (g1))), (mk, .inl (cB, 65536, .inl (kf))), (mf, .inl (cI, 1025, .inl (fun k => iI (fa k)))), (ml, .inl (cI, 1025, .inl (fun k => iI (la k))))] := hD.sub [0, 1, 2, 3, 4, 5, 6, 7, 8, 9, 13, 14, 15, 10, 11, 12] (by decide) rfl
        refine W.widen (k := C + m1) (n := U + m2) (by omega) (by omega) ?_
        refine lv_icmp_eq (tgt := 301) hx hb dL_law_178 (by decide) (fun _ => ?_) (fun q => absurd (rfl) q)
        have hn12 : n1 = n2 ∧ ∀ j, j < n1 → f1 j = g1 j := by
          by_cases q : n + tc ≤ 65536
          · obtain ⟨a1, a2⟩ := hok1 q
            obtain ⟨b1, b2⟩ := hok2 q
            refine ⟨a1.trans b1.symm, fun j hj => ?_⟩
            by_cases q2 : j < n
            · rw [hk1 j q2, hk2 j q2]; exact hIe j q2
            · have a3 := a2 (j - n) (by omega)
              have b3 := b2 (j - n) (by omega)
              rw [show n + (j - n) = j by omega] at a3 b3
              rw [a3, b3]; exact hTe _ (by omega)
          · have a1 := hno1 q
            have b1 := hno2 q
            exact ⟨a1.trans b1.symm, fun j hj => by rw [hk1 j (by omega), hk2 j (by omega)]; exact hIe j (by omega)⟩
        obtain ⟨rfl, hfg1⟩ := hn12
        have hpi2 : pi + m2 ≤ 2 * l1 ∨ (l1 = 65536 ∧ pi + m2 ≤ 196608) := by
          rcases hm12 with ⟨q, e1, e2⟩ | ⟨q, e1, e2⟩
          · rw [e2, show l1 = il by omega]; exact hpi
          · have e3 : l1 = gL 65536 il (n + tc) := by omega
            rw [e2, e3]; exact gL_pot q.2 q.1 hpi
        clear hok1 hok2 hno1 hno2 hk1 hk2
        refine lv_iinc (v := iI (6 * ((t + 1 : Nat) : Int))) (lv' := [(3, .int (iI (6 * ((t + 1 : Nat) : Int)))), (1, .ref h), (2, .ref m0), (0, .ref b)]) hx hb dL_law_301 hl (k := 0) rfl ((iI_add (6 * (t : Int)) 6).trans (congrArg iI (by omega))) (by decide) rfl (fun ls hl => ?_)
        refine lv_goto (tgt := 18) hx hb dL_law_304 (by decide) ?_
        exact ih (t + 1) (tq) (tl) (0) (tf) (q1) (l1) (n1) (f1) (lf) (ln) (s1) (s2) (nl) (cnt) (sa) (za) (wq) (wl) (wc) (wf) (tg) (g1) (ks) (pa) (kf) (fa) (la) (C + m1) (U + m2) (pi + m2) (pw) _ _ ls (by omega) (by omega) (by omega) (hTf) (hTg) (fun j hj => absurd hj (Nat.not_lt_zero j)) (hcl1) (hf1) (hgf1) (hfg1) (hln) (hwn) (hwc) (hwb) (hwf) (hkf) (hws) (by omega) (hpi2) (hpw) (hP.sub [0, 1, 2, 3, 4, 5, 6, 7, 8, 9, 10, 11, 12, 13, 14, 15] rfl) (hD.sub [0, 1, 2, 3, 4, 5, 6, 7, 8, 9, 10, 11, 12, 13, 14, 15] (by decide) rfl) hS (lv_sub hl [0, 1, 2, 3] rfl)
      · refine lv_tableIn (off := 150) (tgt := 183) hx hb dL_law_33 (by decide) (by decide) (by decide) (by decide) ?_
        refine lv_aload_n hx hb dL_law_183 rfl (lv_at hl 1 rfl) ?_
        obtain ⟨V, hV⟩ : ∃ V, V = zCut (bA f n) n := ⟨_, rfl⟩
        have gVW := zCut_rgW f n
        rw [← hV] at gVW
        have gV := gVW.1
        obtain ⟨m1, m2, hm12⟩ : ∃ m1 m2 : Nat, (¬ (0 ≤ V.1 ∧ (wl : Int) < V.1) ∧ m1 = 0 ∧ m2 = 0) ∨ ((0 ≤ V.1 ∧ (wl : Int) < V.1) ∧ m1 = 1 ∧ m2 = gL 65536 wl V.1.toNat) := by
          by_cases q : 0 ≤ V.1 ∧ (wl : Int) < V.1
          · exact ⟨1, _, Or.inr ⟨q, rfl, rfl⟩⟩
          · exact ⟨0, 0, Or.inl ⟨q, rfl, rfl⟩⟩
        have hg1 : gL 65536 wl V.1.toNat ≤ 65536 := by unfold gL; omega
        refine vx_Vi (As := []) (rest := []) (wr := [(tp, .inr (0, [.int (iI (((10240 : Nat) : Int))), .ref tq, .int (iI ((tc : Int)))])), (tq, .inl (cB, tl, .inl (tf))), (m0, .inr (3, [.ref mt, .ref mi, .ref mk, .ref mf, .ref ml, .int (iI ((tc : Int))), .int (iI ((n : Int))), .int (iI ((cnt : Int))), .int (iI ((ks : Int))), .int (iI (lf)), .int (iI (pa))])), (mt, .inl (cB, 10240, .inl (tg))), (mi, .inl (cB, 65536, .inl (g))), (mk, .inl (cB, 65536, .inl (kf))), (mf, .inl (cI, 1025, .inl (fun k => iI (fa k)))), (ml, .inl (cI, 1025, .inl (fun k => iI (la k))))]) (ci := 2) (q0 := 0) [0, 3, 4, 5, 6, 7, 8, 9] [1, 2, 10, 11, 12, 13, 14, 15] ⟨hx, hb, hml, hown, hts⟩ (c_X2_cut l dC dI cB cI _ h tp ip wd iq il n f lf ln hI.1 hI.2 hIf hln wb s1 s2 nl cnt sa za hwn wq wl wc wf hwb.2 hwf m1 m2 (fun q => by rw [← hV] at q ⊢; omega)) (cwV 0 hts (gd_VL tw_149 tw_150 tw_151 tw_19 tw_152) rfl rfl rfl (by decide +kernel) ⟨Nat.le_of_ble_eq_true rfl, Nat.le_of_ble_eq_true rfl⟩) hK hP hD hS hA rfl rfl rfl rfl (by decide) rfl rfl rfl rfl hl.1 rfl (Nat.le_of_ble_eq_true rfl) dL_law_184 ⟨by show C + (400 + m1) ≤ 600000; omega, by show U + (8192 + m2) ≤ 7302250; omega⟩ (fun r u H locs hw hP hD hS => ?_)
        obtain ⟨lf1, ln1, n1, f1, s3, s4, nl1, cnt1, sa1, za1, wq1, wl1, wc1, wf1⟩ := u
        try dsimp only at hw hP hD
        rw [← hV] at hw
        obtain ⟨rfl, hlf1, hln1, hf1, hn1, hnl1, hcnt1, hwf1, hwc1, hwl1, hwl2, hneg1, hpos1⟩ := hw
        have hP : va_P (dC, dI) vwCl [(h, .inr (2, [.ref tp, .ref ip, .ref wd, .int (iI (lf1)), .int (iI (ln1))])), (tp, .inr (0, [.int (iI (((10240 : Nat) : Int))), .ref tq, .int (iI ((tc : Int)))])), (tq, .inl (cB, tl, .inl (tf))), (ip, .inr (0, [.int (iI (((65536 : Nat) : Int))), .ref iq, .int (iI ((n1 : Int)))])), (iq, .inl (cB, il, .inl (f1))), (wd, .inr (1, [.ref wb, .ref s3, .ref s4, .int (iI ((cnt1 : Int)))])), (s3, .inl (cI, nl1, .inl (fun k => iI (sa1 k)))), (s4, .inl (cI, nl1, .inl (fun k => iI (za1 k)))), (wb, .inr (0, [.int (iI (((65536 : Nat) : Int))), .ref wq1, .int (iI ((wc1 : Int)))])), (wq1, .inl (cB, wl1, .inl (wf1))), (m0, .inr (3, [.ref mt, .ref mi, .ref mk, .ref mf, .ref ml, .int (iI ((tc : Int))), .int (iI ((n : Int))), .int (iI ((cnt : Int))), .int (iI ((ks : Int))), .int (iI (lf)), .int (iI (pa))])), (mt, .inl (cB, 10240, .inl (tg))), (mi, .inl (cB, 65536, .inl (g))), (mk, .inl (cB, 65536, .inl (kf))), (mf, .inl (cI, 1025, .inl (fun k => iI (fa k)))), (ml, .inl (cI, 1025, .inl (fun k => iI (la k))))] H := hP.sub [8, 0, 1, 9, 10, 11, 12, 13, 14, 15, 2, 3, 4, 5, 6, 7] rfl
        have hD : va_D A [(h, .inr (2, [.ref tp, .ref ip, .ref wd, .int (iI (lf1)), .int (iI (ln1))])), (tp, .inr (0, [.int (iI (((10240 : Nat) : Int))), .ref tq, .int (iI ((tc : Int)))])), (tq, .inl (cB, tl, .inl (tf))), (ip, .inr (0, [.int (iI (((65536 : Nat) : Int))), .ref iq, .int (iI ((n1 : Int)))])), (iq, .inl (cB, il, .inl (f1))), (wd, .inr (1, [.ref wb, .ref s3, .ref s4, .int (iI ((cnt1 : Int)))])), (s3, .inl (cI, nl1, .inl (fun k => iI (sa1 k)))), (s4, .inl (cI, nl1, .inl (fun k => iI (za1 k)))), (wb, .inr (0, [.int (iI (((65536 : Nat) : Int))), .ref wq1, .int (iI ((wc1 : Int)))])), (wq1, .inl (cB, wl1, .inl (wf1))), (m0, .inr (3, [.ref mt, .ref mi, .ref mk, .ref mf, .ref ml, .int (iI ((tc : Int))), .int (iI ((n : Int))), .int (iI ((cnt : Int))), .int (iI ((ks : Int))), .int (iI (lf)), .int (iI (pa))])), (mt, .inl (cB, 10240, .inl (tg))), (mi, .inl (cB, 65536, .inl (g))), (mk, .inl (cB, 65536, .inl (kf))), (mf, .inl (cI, 1025, .inl (fun k => iI (fa k)))), (ml, .inl (cI, 1025, .inl (fun k => iI (la k))))] := hD.sub [8, 0, 1, 9, 10, 11, 12, 13, 14, 15, 2, 3, 4, 5, 6, 7] (by decide) rfl
        have hcnt2 : cnt1 = cnt1 := rfl
        refine lv_aload_n hx hb dL_law_187 rfl (lv_at hl 2 rfl) ?_
        have hfg : bA g n = bA f n := bA_eq hIe
        refine vx_Vi (As := []) (rest := [.int (iI (if V.1 < 0 then V.1 else (V.2.2.length : Int)))]) (wr := [(h, .inr (2, [.ref tp, .ref ip, .ref wd, .int (iI (lf1)), .int (iI (ln1))])), (tp, .inr (0, [.int (iI (((10240 : Nat) : Int))), .ref tq, .int (iI ((tc : Int)))])), (tq, .inl (cB, tl, .inl (tf))), (ip, .inr (0, [.int (iI (((65536 : Nat) : Int))), .ref iq, .int (iI ((n1 : Int)))])), (iq, .inl (cB, il, .inl (f1))), (wd, .inr (1, [.ref wb, .ref s3, .ref s4, .int (iI ((cnt1 : Int)))])), (s3, .inl (cI, nl1, .inl (fun k => iI (sa1 k)))), (s4, .inl (cI, nl1, .inl (fun k => iI (za1 k)))), (wb, .inr (0, [.int (iI (((65536 : Nat) : Int))), .ref wq1, .int (iI ((wc1 : Int)))])), (wq1, .inl (cB, wl1, .inl (wf1))), (mt, .inl (cB, 10240, .inl (tg)))]) (ci := 3) (q0 := 0) [10, 12, 13, 14, 15] [0, 1, 2, 3, 4, 5, 6, 7, 8, 9, 11] ⟨hx, hb, hml, hown, hts⟩ (c_X3_cut l dC dI cB cI _ m0 mt mi mk mf ml tc n cnt ks lf pa g kf fa la (by omega) hIg hkf) (cwV 0 hts (gd_VL tw_324 tw_325 tw_326 tw_22 tw_327) rfl rfl rfl (by decide +kernel) ⟨Nat.le_of_ble_eq_true rfl, Nat.le_of_ble_eq_true rfl⟩) hK hP hD hS hA rfl rfl rfl rfl (by decide) rfl rfl rfl rfl hl.1 rfl (Nat.le_of_ble_eq_true rfl) dL_law_188 ⟨by show C + (400 + m1) + 0 ≤ 600000; omega, by show U + (8192 + m2) + 0 ≤ 7302250; omega⟩ (fun r u H locs hw hP hD hS => ?_)
        obtain ⟨n2, g1, ft1, pa1, w1, ks1, kf1, fa1, la1⟩ := u
        try dsimp only at hw hP hD
        rw [hfg, ← hV] at hw
        obtain ⟨rfl, hft1, hg1f, hkf1, hneg2, hpos2⟩ := hw
        have hP : va_P (dC, dI) vwCl [(h, .inr (2, [.ref tp, .ref ip, .ref wd, .int (iI (lf1)), .int (iI (ln1))])), (tp, .inr (0, [.int (iI (((10240 : Nat) : Int))), .ref tq, .int (iI ((tc : Int)))])), (tq, .inl (cB, tl, .inl (tf))), (ip, .inr (0, [.int (iI (((65536 : Nat) : Int))), .ref iq, .int (iI ((n1 : Int)))])), (iq, .inl (cB, il, .inl (f1))), (wd, .inr (1, [.ref wb, .ref s3, .ref s4, .int (iI ((cnt1 : Int)))])), (s3, .inl (cI, nl1, .inl (fun k => iI (sa1 k)))), (s4, .inl (cI, nl1, .inl (fun k => iI (za1 k)))), (wb, .inr (0, [.int (iI (((65536 : Nat) : Int))), .ref wq1, .int (iI ((wc1 : Int)))])), (wq1, .inl (cB, wl1, .inl (wf1))), (m0, .inr (3, [.ref mt, .ref mi, .ref mk, .ref mf, .ref ml, .int (iI ((tc : Int))), .int (iI ((n2 : Int))), .int (iI ((w1 : Int))), .int (iI ((ks1 : Int))), .int (iI (ft1)), .int (iI (pa1))])), (mt, .inl (cB, 10240, .inl (tg))), (mi, .inl (cB, 65536, .inl (g1))), (mk, .inl (cB, 65536, .inl (kf1))), (mf, .inl (cI, 1025, .inl (fun k => iI (fa1 k)))), (ml, .inl (cI, 1025, .inl (fun k => iI (la1 k))))] H := hP.sub [0, 1, 2, 3, 4, 5, 6, 7, 8, 9, 11, 10, 12, 13, 14, 15] rfl
        have hD : va_D A [(h, .inr (2, [.ref tp, .ref ip, .ref wd, .int (iI (lf1)), .int (iI (ln1))])), (tp, .inr (0, [.int (iI (((10240 : Nat) : Int))), .ref tq, .int (iI ((tc : Int)))])), (tq, .inl (cB, tl, .inl (tf))), (ip, .inr (0, [.int (iI (((65536 : Nat) : Int))), .ref iq, .int (iI ((n1 : Int)))])), (iq, .inl (cB, il, .inl (f1))), (wd, .inr (1, [.ref wb, .ref s3, .ref s4, .int (iI ((cnt1 : Int)))])), (s3, .inl (cI, nl1, .inl (fun k => iI (sa1 k)))), (s4, .inl (cI, nl1, .inl (fun k => iI (za1 k)))), (wb, .inr (0, [.int (iI (((65536 : Nat) : Int))), .ref wq1, .int (iI ((wc1 : Int)))])), (wq1, .inl (cB, wl1, .inl (wf1))), (m0, .inr (3, [.ref mt, .ref mi, .ref mk, .ref mf, .ref ml, .int (iI ((tc : Int))), .int (iI ((n2 : Int))), .int (iI ((w1 : Int))), .int (iI ((ks1 : Int))), .int (iI (ft1)), .int (iI (pa1))])), (mt, .inl (cB, 10240, .inl (tg))), (mi, .inl (cB, 65536, .inl (g1))), (mk, .inl (cB, 65536, .inl (kf1))), (mf, .inl (cI, 1025, .inl (fun k => iI (fa1 k)))), (ml, .inl (cI, 1025, .inl (fun k => iI (la1 k))))] := hD.sub [0, 1, 2, 3, 4, 5, 6, 7, 8, 9, 11, 10, 12, 13, 14, 15] (by decide) rfl
        refine W.widen (k := C + (400 + m1)) (n := U + (8192 + m2)) (by omega) (by omega) ?_
        refine lv_icmp_eq (tgt := 301) hx hb dL_law_191 (by decide) (fun _ => ?_) (fun q => absurd (rfl) q)
        obtain rfl : lf1 = ft1 := hlf1.trans hft1.symm
        clear hft1
        have hall : n1 = n2 ∧ cnt1 = w1 ∧ n1 ≤ n ∧ (∀ j, j < n1 → f1 j = g1 j) ∧ wS wc1 wf1 kf1 cnt1 sa1 za1 fa1 la1 := by
          by_cases q : V.1 < 0
          · obtain ⟨a1, a2, a3⟩ := hneg1 q
            obtain ⟨b1, b2, b3⟩ := hneg2 q
            refine ⟨a1.trans b1.symm, a3.trans b3.symm, by omega, fun j hj => by rw [a2, b2]; exact hIe j (by omega), ?_⟩
            rw [a3]
            exact wS_0
          · obtain ⟨a1, a2, a3, a4, a5⟩ := hpos1 (by omega)
            obtain ⟨b1, b2, b3, b4, b5⟩ := hpos2 (by omega)
            obtain ⟨e1, e2⟩ := wS_of (n := n) (x := V.1.toNat) a1 b3 (by omega) (fun y hy => by have := gVW.2 y hy (by omega); omega) a5 (by omega) hIe
            refine ⟨a2.trans b1.symm, e1.symm, by omega, fun j hj => by rw [a3 j (by omega), b2 j (by omega)]; exact hIe _ (by omega), ?_⟩
            rw [a4]
            exact e2
        obtain ⟨rfl, rfl, hn1le, hfg1, hws1⟩ := hall
        have hpw2 : pw + m2 ≤ 2 * wl1 ∨ (wl1 = 65536 ∧ pw + m2 ≤ 196608) := by
          rcases hm12 with ⟨q, e1, e2⟩ | ⟨q, e1, e2⟩
          · rw [e2, show wl1 = wl by omega]; exact hpw
          · have e3 : wl1 = gL 65536 wl V.1.toNat := by omega
            rw [e2, e3]; exact gL_pot (by omega) (by omega) hpw
        clear hpos1 hpos2 hneg1 hneg2 gVW
        refine lv_iinc (v := iI (6 * ((t + 1 : Nat) : Int))) (lv' := [(3, .int (iI (6 * ((t + 1 : Nat) : Int)))), (1, .ref h), (2, .ref m0), (0, .ref b)]) hx hb dL_law_301 hl (k := 0) rfl ((iI_add (6 * (t : Int)) 6).trans (congrArg iI (by omega))) (by decide) rfl (fun ls hl => ?_)
        refine lv_goto (tgt := 18) hx hb dL_law_304 (by decide) ?_
        exact ih (t + 1) (tq) (tl) (tc) (tf) (iq) (il) (n1) (f1) (lf1) (ln1) (s3) (s4) (nl1) (cnt1) (sa1) (za1) (wq1) (wl1) (wc1) (wf1) (tg) (g1) (ks1) (pa1) (kf1) (fa1) (la1) (C + (400 + m1)) (U + (8192 + m2)) (pi) (pw + m2) _ _ ls (by omega) (by omega) (hT) (hTf) (hTg) (hTe) (by omega) (hf1) (hg1f) (hfg1) (hln1) (hnl1) (hcnt1) (⟨hwc1, hwl1⟩) (hwf1) (hkf1) (hws1) (by omega) (hpi) (hpw2) (hP.sub [0, 1, 2, 3, 4, 5, 6, 7, 8, 9, 10, 11, 12, 13, 14, 15] rfl) (hD.sub [0, 1, 2, 3, 4, 5, 6, 7, 8, 9, 10, 11, 12, 13, 14, 15] (by decide) rfl) hS (lv_sub hl [0, 1, 2, 3] rfl)
      · refine lv_tableIn (off := 163) (tgt := 196) hx hb dL_law_33 (by decide) (by decide) (by decide) (by decide) ?_
        refine lv_aload_n hx hb dL_law_196 rfl (lv_at hl 1 rfl) ?_
        refine vx_Vs (As := []) (rest := []) (ci := 2) (q0 := 0) [0] ⟨hx, hb, hml, hown, hts⟩ (c_X2_fault l dC dI cB cI h tp ip wd lf ln) (cwV 0 hts (gd_VL tw_230 tw_231 tw_232 tw_19 tw_233) rfl rfl rfl (by decide +kernel) ⟨Nat.le_of_ble_eq_true rfl, Nat.le_of_ble_eq_true rfl⟩) hK hP rfl rfl rfl rfl rfl hl.1 rfl (Nat.le_of_ble_eq_true rfl) dL_law_197 ⟨by show C + 0 ≤ 600000; omega, by show U + 0 ≤ 7302250; omega⟩ (fun r hr => ?_)
        obtain rfl : r = iI (lf) := hr
        refine lv_aload_n hx hb dL_law_200 rfl (lv_at hl 2 rfl) ?_
        refine vx_Vs (As := []) (rest := [.int (iI (lf))]) (ci := 3) (q0 := 0) [10] ⟨hx, hb, hml, hown, hts⟩ (c_X3_fault l dC dI cB cI m0 mt mi mk mf ml tc n cnt ks lf pa) (cwV 0 hts (gd_VL tw_354 tw_355 tw_356 tw_22 tw_357) rfl rfl rfl (by decide +kernel) ⟨Nat.le_of_ble_eq_true rfl, Nat.le_of_ble_eq_true rfl⟩) hK hP rfl rfl rfl rfl rfl hl.1 rfl (Nat.le_of_ble_eq_true rfl) dL_law_201 ⟨by show C + 0 ≤ 600000; omega, by show U + 0 ≤ 7302250; omega⟩ (fun r hr => ?_)
        obtain rfl : r = iI (lf) := hr
        refine lv_icmp_eq (tgt := 301) hx hb dL_law_204 (by decide) (fun _ => ?_) (fun q => absurd (rfl) q)
        refine lv_iinc (v := iI (6 * ((t + 1 : Nat) : Int))) (lv' := [(3, .int (iI (6 * ((t + 1 : Nat) : Int)))), (1, .ref h), (2, .ref m0), (0, .ref b)]) hx hb dL_law_301 hl (k := 0) rfl ((iI_add (6 * (t : Int)) 6).trans (congrArg iI (by omega))) (by decide) rfl (fun ls hl => ?_)
        refine lv_goto (tgt := 18) hx hb dL_law_304 (by decide) ?_
        exact ih (t + 1) (tq) (tl) (tc) (tf) (iq) (il) (n) (f) (lf) (ln) (s1) (s2) (nl) (cnt) (sa) (za) (wq) (wl) (wc) (wf) (tg) (g) (ks) (pa) (kf) (fa) (la) (C) (U) (pi) (pw) _ _ ls (by omega) (by omega) (hT) (hTf) (hTg) (hTe) (hI) (hIf) (hIg) (hIe) (hln) (hwn) (hwc) (hwb) (hwf) (hkf) (hws) (by omega) (hpi) (hpw) (hP.sub [0, 1, 2, 3, 4, 5, 6, 7, 8, 9, 10, 11, 12, 13, 14, 15] rfl) (hD.sub [0, 1, 2, 3, 4, 5, 6, 7, 8, 9, 10, 11, 12, 13, 14, 15] (by decide) rfl) hS (lv_sub hl [0, 1, 2, 3] rfl)
      · refine lv_tableIn (off := 176) (tgt := 209) hx hb dL_law_33 (by decide) (by decide) (by decide) (by decide) ?_
        obtain ⟨z1, hz1, ez1⟩ := iI_of (xs (6 * t + 1))
        refine lv_aload_n hx hb dL_law_209 rfl (lv_at hl 1 rfl) ?_
        refine lv_aload_n hx hb dL_law_210 rfl (lv_at hl 3 rfl) ?_
        refine lv_iload_n hx hb dL_law_211 rfl (lv_at hl 0 rfl) ?_
        refine lv_iconst (v := iI (1)) hx hb dL_law_212 rfl ?_
        refine lx_iadd (a := 6 * (t : Int)) (b := 1) hx hb dL_law_213 ?_
        refine va_sld hx hb hX hbl hbA hS (iI_in (by omega)) dL_law_214 ?_
        refine lx_top (x2 := xs (6 * t + 1)) (congrArg xs (by rw [iI_cl (by omega)]; omega)) ?_
        refine lx_top (x2 := iI z1) ez1 ?_
        refine vx_Vs (As := [.int (iI (z1))]) (rest := []) (ci := 2) (q0 := 0) [0, 5, 7] ⟨hx, hb, hml, hown, hts⟩ (c_X2_size l dC dI cB cI h tp ip wd lf ln wb s1 s2 nl cnt za hwc hwn.2 z1 hz1) (cwV 1 hts (gd_VL tw_234 tw_235 tw_236 tw_19 tw_237) rfl rfl rfl (by decide +kernel) ⟨Nat.le_of_ble_eq_true rfl, Nat.le_of_ble_eq_true rfl⟩) hK hP rfl rfl rfl rfl rfl hl.1 rfl (Nat.le_of_ble_eq_true rfl) dL_law_215 ⟨by show C + 0 ≤ 600000; omega, by show U + 0 ≤ 7302250; omega⟩ (fun r hr => ?_)
        obtain rfl : r = iI (if 0 ≤ z1 ∧ z1 < cnt then za z1.toNat else -1) := hr
        refine lv_aload_n hx hb dL_law_218 rfl (lv_at hl 2 rfl) ?_
        refine lv_aload_n hx hb dL_law_219 rfl (lv_at hl 3 rfl) ?_
        refine lv_iload_n hx hb dL_law_220 rfl (lv_at hl 0 rfl) ?_
        refine lv_iconst (v := iI (1)) hx hb dL_law_221 rfl ?_
        refine lx_iadd (a := 6 * (t : Int)) (b := 1) hx hb dL_law_222 ?_
        refine va_sld hx hb hX hbl hbA hS (iI_in (by omega)) dL_law_223 ?_
        refine lx_top (x2 := xs (6 * t + 1)) (congrArg xs (by rw [iI_cl (by omega)]; omega)) ?_
        refine lx_top (x2 := iI z1) ez1 ?_
        refine vx_Vs (As := [.int (iI (z1))]) (rest := [.int (iI (if 0 ≤ z1 ∧ z1 < cnt then za z1.toNat else -1))]) (ci := 3) (q0 := 0) [10, 15] ⟨hx, hb, hml, hown, hts⟩ (c_X3_size l dC dI cB cI m0 mt mi mk mf ml tc n cnt ks lf pa la (by omega) z1 hz1) (cwV 1 hts (gd_VL tw_358 tw_359 tw_360 tw_22 tw_361) rfl rfl rfl (by decide +kernel) ⟨Nat.le_of_ble_eq_true rfl, Nat.le_of_ble_eq_true rfl⟩) hK hP rfl rfl rfl rfl rfl hl.1 rfl (Nat.le_of_ble_eq_true rfl) dL_law_224 ⟨by show C + 0 ≤ 600000; omega, by show U + 0 ≤ 7302250; omega⟩ (fun r hr => ?_)
        obtain rfl : r = iI (if 0 ≤ z1 ∧ z1 < cnt then la z1.toNat else -1) := hr
        refine lv_icmp_eq (tgt := 301) hx hb dL_law_227 (by decide) (fun _ => ?_) (fun q => absurd ((wS_size hws z1).symm) q)
        refine lv_iinc (v := iI (6 * ((t + 1 : Nat) : Int))) (lv' := [(3, .int (iI (6 * ((t + 1 : Nat) : Int)))), (1, .ref h), (2, .ref m0), (0, .ref b)]) hx hb dL_law_301 hl (k := 0) rfl ((iI_add (6 * (t : Int)) 6).trans (congrArg iI (by omega))) (by decide) rfl (fun ls hl => ?_)
        refine lv_goto (tgt := 18) hx hb dL_law_304 (by decide) ?_
        exact ih (t + 1) (tq) (tl) (tc) (tf) (iq) (il) (n) (f) (lf) (ln) (s1) (s2) (nl) (cnt) (sa) (za) (wq) (wl) (wc) (wf) (tg) (g) (ks) (pa) (kf) (fa) (la) (C) (U) (pi) (pw) _ _ ls (by omega) (by omega) (hT) (hTf) (hTg) (hTe) (hI) (hIf) (hIg) (hIe) (hln) (hwn) (hwc) (hwb) (hwf) (hkf) (hws) (by omega) (hpi) (hpw) (hP.sub [0, 1, 2, 3, 4, 5, 6, 7, 8, 9, 10, 11, 12, 13, 14, 15] rfl) (hD.sub [0, 1, 2, 3, 4, 5, 6, 7, 8, 9, 10, 11, 12, 13, 14, 15] (by decide) rfl) hS (lv_sub hl [0, 1, 2, 3] rfl)
      · refine lv_tableIn (off := 199) (tgt := 232) hx hb dL_law_33 (by decide) (by decide) (by decide) (by decide) ?_
        obtain ⟨z1, hz1, ez1⟩ := iI_of (xs (6 * t + 1))
        obtain ⟨z2, hz2, ez2⟩ := iI_of (xs (6 * t + 2))
        refine lv_aload_n hx hb dL_law_232 rfl (lv_at hl 1 rfl) ?_
        refine lv_aload_n hx hb dL_law_233 rfl (lv_at hl 3 rfl) ?_
        refine lv_iload_n hx hb dL_law_234 rfl (lv_at hl 0 rfl) ?_
        refine lv_iconst (v := iI (1)) hx hb dL_law_235 rfl ?_
        refine lx_iadd (a := 6 * (t : Int)) (b := 1) hx hb dL_law_236 ?_
        refine va_sld hx hb hX hbl hbA hS (iI_in (by omega)) dL_law_237 ?_
        refine lx_top (x2 := xs (6 * t + 1)) (congrArg xs (by rw [iI_cl (by omega)]; omega)) ?_
        refine lx_top (x2 := iI z1) ez1 ?_
        refine lv_aload_n hx hb dL_law_238 rfl (lv_at hl 3 rfl) ?_
        refine lv_iload_n hx hb dL_law_239 rfl (lv_at hl 0 rfl) ?_
        refine lv_iconst (v := iI (2)) hx hb dL_law_240 rfl ?_
        refine lx_iadd (a := 6 * (t : Int)) (b := 2) hx hb dL_law_241 ?_
        refine va_sld hx hb hX hbl hbA hS (iI_in (by omega)) dL_law_242 ?_
        refine lx_top (x2 := xs (6 * t + 2)) (congrArg xs (by rw [iI_cl (by omega)]; omega)) ?_
        refine lx_top (x2 := iI z2) ez2 ?_
        refine vx_Vs (As := [.int (iI (z1)), .int (iI (z2))]) (rest := []) (ci := 2) (q0 := 0) [0, 5, 6, 7, 8, 9] ⟨hx, hb, hml, hown, hts⟩ (c_X2_byteOf l dC dI cB cI h tp ip wd lf ln wb s1 s2 nl cnt sa za hwc hwn.2 (wS_z hws (by omega)) wq wl wc wf hwb.1 hwb.2 z1 z2 hz1 hz2) (cwV 2 hts (gd_VL tw_242 tw_243 tw_244 tw_19 tw_245) rfl rfl rfl (by decide +kernel) ⟨Nat.le_of_ble_eq_true rfl, Nat.le_of_ble_eq_true rfl⟩) hK hP rfl rfl rfl rfl rfl hl.1 rfl (Nat.le_of_ble_eq_true rfl) dL_law_243 ⟨by show C + 0 ≤ 600000; omega, by show U + 0 ≤ 7302250; omega⟩ (fun r hr => ?_)
        obtain rfl : r = iI (if (0 ≤ z1 ∧ z1 < cnt) ∧ 0 ≤ z2 ∧ z2 < za z1.toNat then bA wf wc (sa z1.toNat + z2) else -1) := hr
        refine lv_aload_n hx hb dL_law_246 rfl (lv_at hl 2 rfl) ?_
        refine lv_aload_n hx hb dL_law_247 rfl (lv_at hl 3 rfl) ?_
        refine lv_iload_n hx hb dL_law_248 rfl (lv_at hl 0 rfl) ?_
        refine lv_iconst (v := iI (1)) hx hb dL_law_249 rfl ?_
        refine lx_iadd (a := 6 * (t : Int)) (b := 1) hx hb dL_law_250 ?_
        refine va_sld hx hb hX hbl hbA hS (iI_in (by omega)) dL_law_251 ?_
        refine lx_top (x2 := xs (6 * t + 1)) (congrArg xs (by rw [iI_cl (by omega)]; omega)) ?_
        refine lx_top (x2 := iI z1) ez1 ?_
        refine lv_aload_n hx hb dL_law_252 rfl (lv_at hl 3 rfl) ?_
        refine lv_iload_n hx hb dL_law_253 rfl (lv_at hl 0 rfl) ?_
        refine lv_iconst (v := iI (2)) hx hb dL_law_254 rfl ?_
        refine lx_iadd (a := 6 * (t : Int)) (b := 2) hx hb dL_law_255 ?_
        refine va_sld hx hb hX hbl hbA hS (iI_in (by omega)) dL_law_256 ?_
        refine lx_top (x2 := xs (6 * t + 2)) (congrArg xs (by rw [iI_cl (by omega)]; omega)) ?_
        refine lx_top (x2 := iI z2) ez2 ?_
        refine vx_Vs (As := [.int (iI (z1)), .int (iI (z2))]) (rest := [.int (iI (if (0 ≤ z1 ∧ z1 < cnt) ∧ 0 ≤ z2 ∧ z2 < za z1.toNat then bA wf wc (sa z1.toNat + z2) else -1))]) (ci := 3) (q0 := 0) [10, 13, 14, 15] ⟨hx, hb, hml, hown, hts⟩ (c_X3_byteOf l dC dI cB cI m0 mt mi mk mf ml tc n cnt ks lf pa kf fa la (by omega) (wS_m hws) z1 z2 hz1 hz2) (cwV 2 hts (gd_VL tw_362 tw_363 tw_364 tw_22 tw_365) rfl rfl rfl (by decide +kernel) ⟨Nat.le_of_ble_eq_true rfl, Nat.le_of_ble_eq_true rfl⟩) hK hP rfl rfl rfl rfl rfl hl.1 rfl (Nat.le_of_ble_eq_true rfl) dL_law_257 ⟨by show C + 0 ≤ 600000; omega, by show U + 0 ≤ 7302250; omega⟩ (fun r hr => ?_)
        obtain rfl : r = iI (if (0 ≤ z1 ∧ z1 < cnt) ∧ 0 ≤ z2 ∧ z2 < la z1.toNat then bv (kf (fa z1.toNat + z2).toNat) else -1) := hr
        refine lv_icmp_eq (tgt := 301) hx hb dL_law_260 (by decide) (fun _ => ?_) (fun q => absurd ((wS_byte hws z1 z2).symm) q)
        refine lv_iinc (v := iI (6 * ((t + 1 : Nat) : Int))) (lv' := [(3, .int (iI (6 * ((t + 1 : Nat) : Int)))), (1, .ref h), (2, .ref m0), (0, .ref b)]) hx hb dL_law_301 hl (k := 0) rfl ((iI_add (6 * (t : Int)) 6).trans (congrArg iI (by omega))) (by decide) rfl (fun ls hl => ?_)
        refine lv_goto (tgt := 18) hx hb dL_law_304 (by decide) ?_
        exact ih (t + 1) (tq) (tl) (tc) (tf) (iq) (il) (n) (f) (lf) (ln) (s1) (s2) (nl) (cnt) (sa) (za) (wq) (wl) (wc) (wf) (tg) (g) (ks) (pa) (kf) (fa) (la) (C) (U) (pi) (pw) _ _ ls (by omega) (by omega) (hT) (hTf) (hTg) (hTe) (hI) (hIf) (hIg) (hIe) (hln) (hwn) (hwc) (hwb) (hwf) (hkf) (hws) (by omega) (hpi) (hpw) (hP.sub [0, 1, 2, 3, 4, 5, 6, 7, 8, 9, 10, 11, 12, 13, 14, 15] rfl) (hD.sub [0, 1, 2, 3, 4, 5, 6, 7, 8, 9, 10, 11, 12, 13, 14, 15] (by decide) rfl) hS (lv_sub hl [0, 1, 2, 3] rfl)
      · refine lv_tableIn (off := 232) (tgt := 265) hx hb dL_law_33 (by decide) (by decide) (by decide) (by decide) ?_
        obtain ⟨z1, hz1, ez1⟩ := iI_of (xs (6 * t + 1))
        refine lv_aload_n hx hb dL_law_265 rfl (lv_at hl 1 rfl) ?_
        refine lv_aload_n hx hb dL_law_266 rfl (lv_at hl 3 rfl) ?_
        refine lv_iload_n hx hb dL_law_267 rfl (lv_at hl 0 rfl) ?_
        refine lv_iconst (v := iI (1)) hx hb dL_law_268 rfl ?_
        refine lx_iadd (a := 6 * (t : Int)) (b := 1) hx hb dL_law_269 ?_
        refine va_sld hx hb hX hbl hbA hS (iI_in (by omega)) dL_law_270 ?_
        refine lx_top (x2 := xs (6 * t + 1)) (congrArg xs (by rw [iI_cl (by omega)]; omega)) ?_
        refine lx_top (x2 := iI z1) ez1 ?_
        refine vx_Vi (As := [.int (iI (z1))]) (rest := []) (wr := [(tp, .inr (0, [.int (iI (((10240 : Nat) : Int))), .ref tq, .int (iI ((tc : Int)))])), (tq, .inl (cB, tl, .inl (tf))), (wd, .inr (1, [.ref wb, .ref s1, .ref s2, .int (iI ((cnt : Int)))])), (s1, .inl (cI, nl, .inl (fun k => iI (sa k)))), (s2, .inl (cI, nl, .inl (fun k => iI (za k)))), (wb, .inr (0, [.int (iI (((65536 : Nat) : Int))), .ref wq, .int (iI ((wc : Int)))])), (wq, .inl (cB, wl, .inl (wf))), (m0, .inr (3, [.ref mt, .ref mi, .ref mk, .ref mf, .ref ml, .int (iI ((tc : Int))), .int (iI ((n : Int))), .int (iI ((cnt : Int))), .int (iI ((ks : Int))), .int (iI (lf)), .int (iI (pa))])), (mt, .inl (cB, 10240, .inl (tg))), (mi, .inl (cB, 65536, .inl (g))), (mk, .inl (cB, 65536, .inl (kf))), (mf, .inl (cI, 1025, .inl (fun k => iI (fa k)))), (ml, .inl (cI, 1025, .inl (fun k => iI (la k))))]) (ci := 2) (q0 := 0) [0, 3, 4] [1, 2, 5, 6, 7, 8, 9, 10, 11, 12, 13, 14, 15] ⟨hx, hb, hml, hown, hts⟩ (c_X2_drop l dC dI cB cI _ h tp ip wd lf ln iq il n f hI.1 hI.2 hIf z1 hz1) (cwV 1 hts (gd_VL tw_251 tw_252 tw_253 tw_19 tw_254) rfl rfl rfl (by decide +kernel) ⟨Nat.le_of_ble_eq_true rfl, Nat.le_of_ble_eq_true rfl⟩) hK hP hD hS hA rfl rfl rfl rfl (by decide) rfl rfl rfl rfl hl.1 rfl (Nat.le_of_ble_eq_true rfl) dL_law_271 ⟨by show C + 0 ≤ 600000; omega, by show U + 0 ≤ 7302250; omega⟩ (fun r u H locs hw hP hD hS => ?_)
        obtain ⟨f1, n1⟩ := u
        try dsimp only at hw hP hD
        obtain ⟨rfl, hf1, hok1, hno1⟩ := hw
        have hP : va_P (dC, dI) vwCl [(h, .inr (2, [.ref tp, .ref ip, .ref wd, .int (iI (lf)), .int (iI (ln))])), (tp, .inr (0, [.int (iI (((10240 : Nat) : Int))), .ref tq, .int (iI ((tc : Int)))])), (tq, .inl (cB, tl, .inl (tf))), (ip, .inr (0, [.int (iI (((65536 : Nat) : Int))), .ref iq, .int (iI ((n1 : Int)))])), (iq, .inl (cB, il, .inl (f1))), (wd, .inr (1, [.ref wb, .ref s1, .ref s2, .int (iI ((cnt : Int)))])), (s1, .inl (cI, nl, .inl (fun k => iI (sa k)))), (s2, .inl (cI, nl, .inl (fun k => iI (za k)))), (wb, .inr (0, [.int (iI (((65536 : Nat) : Int))), .ref wq, .int (iI ((wc : Int)))])), (wq, .inl (cB, wl, .inl (wf))), (m0, .inr (3, [.ref mt, .ref mi, .ref mk, .ref mf, .ref ml, .int (iI ((tc : Int))), .int (iI ((n : Int))), .int (iI ((cnt : Int))), .int (iI ((ks : Int))), .int (iI (lf)), .int (iI (pa))])), (mt, .inl (cB, 10240, .inl (tg))), (mi, .inl (cB, 65536, .inl (g))), (mk, .inl (cB, 65536, .inl (kf))), (mf, .inl (cI, 1025, .inl (fun k => iI (fa k)))), (ml, .inl (cI, 1025, .inl (fun k => iI (la k))))] H := hP.sub [13, 0, 1, 14, 15, 2, 3, 4, 5, 6, 7, 8, 9, 10, 11, 12] rfl
        have hD : va_D A [(h, .inr (2, [.ref tp, .ref ip, .ref wd, .int (iI (lf)), .int (iI (ln))])), (tp, .inr (0, [.int (iI (((10240 : Nat) : Int))), .ref tq, .int (iI ((tc : Int)))])), (tq, .inl (cB, tl, .inl (tf))), (ip, .inr (0, [.int (iI (((65536 : Nat) : Int))), .ref iq, .int (iI ((n1 : Int)))])), (iq, .inl (cB, il, .inl (f1))), (wd, .inr (1, [.ref wb, .ref s1, .ref s2, .int (iI ((cnt : Int)))])), (s1, .inl (cI, nl, .inl (fun k => iI (sa k)))), (s2, .inl (cI, nl, .inl (fun k => iI (za k)))), (wb, .inr (0, [.int (iI (((65536 : Nat) : Int))), .ref wq, .int (iI ((wc : Int)))])), (wq, .inl (cB, wl, .inl (wf))), (m0, .inr (3, [.ref mt, .ref mi, .ref mk, .ref mf, .ref ml, .int (iI ((tc : Int))), .int (iI ((n : Int))), .int (iI ((cnt : Int))), .int (iI ((ks : Int))), .int (iI (lf)), .int (iI (pa))])), (mt, .inl (cB, 10240, .inl (tg))), (mi, .inl (cB, 65536, .inl (g))), (mk, .inl (cB, 65536, .inl (kf))), (mf, .inl (cI, 1025, .inl (fun k => iI (fa k)))), (ml, .inl (cI, 1025, .inl (fun k => iI (la k))))] := hD.sub [13, 0, 1, 14, 15, 2, 3, 4, 5, 6, 7, 8, 9, 10, 11, 12] (by decide) rfl
        refine W.widen (k := C) (n := U) (by omega) (by omega) ?_
        refine lv_aload_n hx hb dL_law_274 rfl (lv_at hl 2 rfl) ?_
        refine lv_aload_n hx hb dL_law_275 rfl (lv_at hl 3 rfl) ?_
        refine lv_iload_n hx hb dL_law_276 rfl (lv_at hl 0 rfl) ?_
        refine lv_iconst (v := iI (1)) hx hb dL_law_277 rfl ?_
        refine lx_iadd (a := 6 * (t : Int)) (b := 1) hx hb dL_law_278 ?_
        refine va_sld hx hb hX hbl hbA hS (iI_in (by omega)) dL_law_279 ?_
        refine lx_top (x2 := xs (6 * t + 1)) (congrArg xs (by rw [iI_cl (by omega)]; omega)) ?_
        refine lx_top (x2 := iI z1) ez1 ?_
        refine vx_Vi (As := [.int (iI (z1))]) (rest := [.int (iI (if 0 ≤ z1 ∧ z1 ≤ (n : Int) then 1 else 0))]) (wr := [(h, .inr (2, [.ref tp, .ref ip, .ref wd, .int (iI (lf)), .int (iI (ln))])), (tp, .inr (0, [.int (iI (((10240 : Nat) : Int))), .ref tq, .int (iI ((tc : Int)))])), (tq, .inl (cB, tl, .inl (tf))), (ip, .inr (0, [.int (iI (((65536 : Nat) : Int))), .ref iq, .int (iI ((n1 : Int)))])), (iq, .inl (cB, il, .inl (f1))), (wd, .inr (1, [.ref wb, .ref s1, .ref s2, .int (iI ((cnt : Int)))])), (s1, .inl (cI, nl, .inl (fun k => iI (sa k)))), (s2, .inl (cI, nl, .inl (fun k => iI (za k)))), (wb, .inr (0, [.int (iI (((65536 : Nat) : Int))), .ref wq, .int (iI ((wc : Int)))])), (wq, .inl (cB, wl, .inl (wf))), (mt, .inl (cB, 10240, .inl (tg))), (mk, .inl (cB, 65536, .inl (kf))), (mf, .inl (cI, 1025, .inl (fun k => iI (fa k)))), (ml, .inl (cI, 1025, .inl (fun k => iI (la k))))]) (ci := 3) (q0 := 0) [10, 12] [0, 1, 2, 3, 4, 5, 6, 7, 8, 9, 11, 13, 14, 15] ⟨hx, hb, hml, hown, hts⟩ (c_X3_drop l dC dI cB cI _ m0 mt mi mk mf ml tc n cnt ks lf pa g (by omega) hIg z1 hz1) (cwV 1 hts (gd_VL tw_316 tw_317 tw_318 tw_22 tw_319) rfl rfl rfl (by decide +kernel) ⟨Nat.le_of_ble_eq_true rfl, Nat.le_of_ble_eq_true rfl⟩) hK hP hD hS hA rfl rfl rfl rfl (by decide) rfl rfl rfl rfl hl.1 rfl (Nat.le_of_ble_eq_true rfl) dL_law_280 ⟨by show C + 0 ≤ 600000; omega, by show U + 0 ≤ 7302250; omega⟩ (fun r u H locs hw hP hD hS => ?_)
        obtain ⟨g1, n2⟩ := u
        try dsimp only at hw hP hD
        obtain ⟨rfl, hg1, hok2, hno2⟩ := hw
        have hP : va_P (dC, dI) vwCl [(h, .inr (2, [.ref tp, .ref ip, .ref wd, .int (iI (lf)), .int (iI (ln))])), (tp, .inr (0, [.int (iI (((10240 : Nat) : Int))), .ref tq, .int (iI ((tc : Int)))])), (tq, .inl (cB, tl, .inl (tf))), (ip, .inr (0, [.int (iI (((65536 : Nat) : Int))), .ref iq, .int (iI ((n1 : Int)))])), (iq, .inl (cB, il, .inl (f1))), (wd, .inr (1, [.ref wb, .ref s1, .ref s2, .int (iI ((cnt : Int)))])), (s1, .inl (cI, nl, .inl (fun k => iI (sa k)))), (s2, .inl (cI, nl, .inl (fun k => iI (za k)))), (wb, .inr (0, [.int (iI (((65536 : Nat) : Int))), .ref wq, .int (iI ((wc : Int)))])), (wq, .inl (cB, wl, .inl (wf))), (m0, .inr (3, [.ref mt, .ref mi, .ref mk, .ref mf, .ref ml, .int (iI ((tc : Int))), .int (iI ((n2 : Int))), .int (iI ((cnt : Int))), .int (iI ((ks : Int))), .int (iI (lf)), .int (iI (pa))])), (mt, .inl (cB, 10240, .inl (tg))), (mi, .inl (cB, 65536, .inl (g1))), (mk, .inl (cB, 65536, .inl (kf))), (mf, .inl (cI, 1025, .inl (fun k => iI (fa k)))), (ml, .inl (cI, 1025, .inl (fun k => iI (la k))))] H := hP.sub [0, 1, 2, 3, 4, 5, 6, 7, 8, 9, 14, 10, 15, 11, 12, 13] rfl
        have hD : va_D A [(h, .inr (2, [.ref tp, .ref ip, .ref wd, .int (iI (lf)), .int (iI (ln))])), (tp, .inr (0, [.int (iI (((10240 : Nat) : Int))), .ref tq, .int (iI ((tc : Int)))])), (tq, .inl (cB, tl, .inl (tf))), (ip, .inr (0, [.int (iI (((65536 : Nat) : Int))), .ref iq, .int (iI ((n1 : Int)))])), (iq, .inl (cB, il, .inl (f1))), (wd, .inr (1, [.ref wb, .ref s1, .ref s2, .int (iI ((cnt : Int)))])), (s1, .inl (cI, nl, .inl (fun k => iI (sa k)))), (s2, .inl (cI, nl, .inl (fun k => iI (za k)))), (wb, .inr (0, [.int (iI (((65536 : Nat) : Int))), .ref wq, .int (iI ((wc : Int)))])), (wq, .inl (cB, wl, .inl (wf))), (m0, .inr (3, [.ref mt, .ref mi, .ref mk, .ref mf, .ref ml, .int (iI ((tc : Int))), .int (iI ((n2 : Int))), .int (iI ((cnt : Int))), .int (iI ((ks : Int))), .int (iI (lf)), .int (iI (pa))])), (mt, .inl (cB, 10240, .inl (tg))), (mi, .inl (cB, 65536, .inl (g1))), (mk, .inl (cB, 65536, .inl (kf))), (mf, .inl (cI, 1025, .inl (fun k => iI (fa k)))), (ml, .inl (cI, 1025, .inl (fun k => iI (la k))))] := hD.sub [0, 1, 2, 3, 4, 5, 6, 7, 8, 9, 14, 10, 15, 11, 12, 13] (by decide) rfl
        refine W.widen (k := C) (n := U) (by omega) (by omega) ?_
        refine lv_icmp_eq (tgt := 301) hx hb dL_law_283 (by decide) (fun _ => ?_) (fun q => absurd (rfl) q)
        have hn12 : n1 = n2 ∧ n1 ≤ n ∧ ∀ j, j < n1 → f1 j = g1 j := by
          by_cases q : 0 ≤ z1 ∧ z1 ≤ (n : Int)
          · obtain ⟨a1, a2⟩ := hok1 q
            obtain ⟨b1, b2⟩ := hok2 q
            exact ⟨a1.trans b1.symm, by omega, fun j hj => by rw [a2 j (by omega), b2 j (by omega)]; exact hIe _ (by omega)⟩
          · have a1 := hno1 q
            have b1 := hno2 q
            cases a1
            cases b1
            exact ⟨rfl, Nat.le_refl _, hIe⟩
        obtain ⟨rfl, hn1le, hfg1⟩ := hn12
        clear hok1 hok2 hno1 hno2
        refine lv_iinc (v := iI (6 * ((t + 1 : Nat) : Int))) (lv' := [(3, .int (iI (6 * ((t + 1 : Nat) : Int)))), (1, .ref h), (2, .ref m0), (0, .ref b)]) hx hb dL_law_301 hl (k := 0) rfl ((iI_add (6 * (t : Int)) 6).trans (congrArg iI (by omega))) (by decide) rfl (fun ls hl => ?_)
        refine lv_goto (tgt := 18) hx hb dL_law_304 (by decide) ?_
        exact ih (t + 1) (tq) (tl) (tc) (tf) (iq) (il) (n1) (f1) (lf) (ln) (s1) (s2) (nl) (cnt) (sa) (za) (wq) (wl) (wc) (wf) (tg) (g1) (ks) (pa) (kf) (fa) (la) (C) (U) (pi) (pw) _ _ ls (by omega) (by omega) (hT) (hTf) (hTg) (hTe) (by omega) (hf1) (hg1) (hfg1) (hln) (hwn) (hwc) (hwb) (hwf) (hkf) (hws) (by omega) (hpi) (hpw) (hP.sub [0, 1, 2, 3, 4, 5, 6, 7, 8, 9, 10, 11, 12, 13, 14, 15] rfl) (hD.sub [0, 1, 2, 3, 4, 5, 6, 7, 8, 9, 10, 11, 12, 13, 14, 15] (by decide) rfl) hS (lv_sub hl [0, 1, 2, 3] rfl)
      · refine lv_tableIn (off := 255) (tgt := 288) hx hb dL_law_33 (by decide) (by decide) (by decide) (by decide) ?_
        refine lv_aload_n hx hb dL_law_288 rfl (lv_at hl 1 rfl) ?_
        refine vx_Vs (As := []) (rest := []) (ci := 2) (q0 := 0) [0, 3] ⟨hx, hb, hml, hown, hts⟩ (c_X2_waiting l dC dI cB cI h tp ip wd lf ln iq n) (cwV 0 hts (gd_VL tw_255 tw_256 tw_257 tw_19 tw_258) rfl rfl rfl (by decide +kernel) ⟨Nat.le_of_ble_eq_true rfl, Nat.le_of_ble_eq_true rfl⟩) hK hP rfl rfl rfl rfl rfl hl.1 rfl (Nat.le_of_ble_eq_true rfl) dL_law_289 ⟨by show C + 0 ≤ 600000; omega, by show U + 0 ≤ 7302250; omega⟩ (fun r hr => ?_)
        obtain rfl : r = iI ((n : Int)) := hr
        refine lv_aload_n hx hb dL_law_292 rfl (lv_at hl 2 rfl) ?_
        refine vx_Vs (As := []) (rest := [.int (iI ((n : Int)))]) (ci := 3) (q0 := 0) [10] ⟨hx, hb, hml, hown, hts⟩ (c_X3_waiting l dC dI cB cI m0 mt mi mk mf ml tc n cnt ks lf pa) (cwV 0 hts (gd_VL tw_367 tw_368 tw_369 tw_22 tw_370) rfl rfl rfl (by decide +kernel) ⟨Nat.le_of_ble_eq_true rfl, Nat.le_of_ble_eq_true rfl⟩) hK hP rfl rfl rfl rfl rfl hl.1 rfl (Nat.le_of_ble_eq_true rfl) dL_law_293 ⟨by show C + 0 ≤ 600000; omega, by show U + 0 ≤ 7302250; omega⟩ (fun r hr => ?_)
        obtain rfl : r = iI ((n : Int)) := hr
        refine lv_icmp_eq (tgt := 301) hx hb dL_law_296 (by decide) (fun _ => ?_) (fun q => absurd (rfl) q)
        refine lv_iinc (v := iI (6 * ((t + 1 : Nat) : Int))) (lv' := [(3, .int (iI (6 * ((t + 1 : Nat) : Int)))), (1, .ref h), (2, .ref m0), (0, .ref b)]) hx hb dL_law_301 hl (k := 0) rfl ((iI_add (6 * (t : Int)) 6).trans (congrArg iI (by omega))) (by decide) rfl (fun ls hl => ?_)
        refine lv_goto (tgt := 18) hx hb dL_law_304 (by decide) ?_
        exact ih (t + 1) (tq) (tl) (tc) (tf) (iq) (il) (n) (f) (lf) (ln) (s1) (s2) (nl) (cnt) (sa) (za) (wq) (wl) (wc) (wf) (tg) (g) (ks) (pa) (kf) (fa) (la) (C) (U) (pi) (pw) _ _ ls (by omega) (by omega) (hT) (hTf) (hTg) (hTe) (hI) (hIf) (hIg) (hIe) (hln) (hwn) (hwc) (hwb) (hwf) (hkf) (hws) (by omega) (hpi) (hpw) (hP.sub [0, 1, 2, 3, 4, 5, 6, 7, 8, 9, 10, 11, 12, 13, 14, 15] rfl) (hD.sub [0, 1, 2, 3, 4, 5, 6, 7, 8, 9, 10, 11, 12, 13, 14, 15] (by decide) rfl) hS (lv_sub hl [0, 1, 2, 3] rfl)
      · refine lv_tableOut (tgt := 301) hx hb dL_law_33 (Or.inr (by rw [iI_toInt (by omega)]; omega)) (by decide) ?_
        refine lv_iinc (v := iI (6 * ((t + 1 : Nat) : Int))) (lv' := [(3, .int (iI (6 * ((t + 1 : Nat) : Int)))), (1, .ref h), (2, .ref m0), (0, .ref b)]) hx hb dL_law_301 hl (k := 0) rfl ((iI_add (6 * (t : Int)) 6).trans (congrArg iI (by omega))) (by decide) rfl (fun ls hl => ?_)
        refine lv_goto (tgt := 18) hx hb dL_law_304 (by decide) ?_
        exact ih (t + 1) (tq) (tl) (tc) (tf) (iq) (il) (n) (f) (lf) (ln) (s1) (s2) (nl) (cnt) (sa) (za) (wq) (wl) (wc) (wf) (tg) (g) (ks) (pa) (kf) (fa) (la) (C) (U) (pi) (pw) _ _ ls (by omega) (by omega) (hT) (hTf) (hTg) (hTe) (hI) (hIf) (hIg) (hIe) (hln) (hwn) (hwc) (hwb) (hwf) (hkf) (hws) (by omega) (hpi) (hpw) (hP.sub [0, 1, 2, 3, 4, 5, 6, 7, 8, 9, 10, 11, 12, 13, 14, 15] rfl) (hD.sub [0, 1, 2, 3, 4, 5, 6, 7, 8, 9, 10, 11, 12, 13, 14, 15] (by decide) rfl) hS (lv_sub hl [0, 1, 2, 3] rfl)
