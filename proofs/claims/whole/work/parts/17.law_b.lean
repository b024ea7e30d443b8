set_option maxHeartbeats 4000000 in
set_option maxRecDepth 100000 in
theorem tk_law_due {p : Program} {e : Env} {s : State} {m : MethodId} {below : List Frame} {meth : Method} {c : Code} (l : Launch) {b L : Nat} {xs : Nat → Int32} (hL : L ≤ 2048) (C0 : lw_At p s m meth c b L xs) (dC : Nat → ClassId) (dI : Nat → Nat → Nat) (o0 : Nat) (q : Nat → Nat) (ca : Nat → ClassId) (o1 : Nat) (q1 : Nat → Nat) (cb : Nat → ClassId) (hK : va_K (dC, dI) vwCl (tk_t0 ca ++ tk_t1 cb) s) (A : Nat → Prop) (hA : ∀ x, s.heap.size ≤ x → A x) (hA2 : ∀ x, A x → s.heap.size ≤ x) (i k : Nat) (ih : ∀ (i : Nat) (aP aH aT aA aG aK aZ aS : Nat → Int32) (aL : Nat → Int64) (aF : Nat → Int32) (n : Nat) (pa he wk : Nat → Nat) (Hp : Heap) (locs : List Loc) (ls : Array Slot), L ≤ i + k → i ≤ 2060 → tk_inv aP aH aT aA aG aK aZ aL aF pa he wk n → va_P (dC, dI) vwCl (tk_w0 o0 q ca aP aH aT aA aG aK aZ aS n ++ tk_w1 o1 q1 cb aP aH aT aG aL aA aF aS n) Hp → va_D A (tk_w0 o0 q ca aP aH aT aA aG aK aZ aS n ++ tk_w1 o1 q1 cb aP aH aT aG aL aA aF aS n) → va_S A s.heap Hp locs → lv_has ls 4 [(3, .int (nI i)), (2, .ref o1), (1, .ref o0), (0, .ref b)] → W p l e room_1 s m #[Value.ref b] below meth c Hp locs 18 7200 (lw_Z below #[Value.ref b] s) (F0 m 18 ls [])) (aP aH aT aA aG aK aZ aS : Nat → Int32) (aL : Nat → Int64) (aF : Nat → Int32) (n : Nat) (pa he wk : Nat → Nat) (Hp : Heap) (locs : List Loc) (ls : Array Slot) (hk : L ≤ i + (k + 1)) (hi : i + 4 ≤ L) (hinv : tk_inv aP aH aT aA aG aK aZ aL aF pa he wk n) (hP : va_P (dC, dI) vwCl (tk_w0 o0 q ca aP aH aT aA aG aK aZ aS n ++ tk_w1 o1 q1 cb aP aH aT aG aL aA aF aS n) Hp) (hD : va_D A (tk_w0 o0 q ca aP aH aT aA aG aK aZ aS n ++ tk_w1 o1 q1 cb aP aH aT aG aL aA aF aS n)) (hS : va_S A s.heap Hp locs) (hl : lv_has ls 4 [(3, .int (nI i)), (2, .ref o1), (1, .ref o0), (0, .ref b)]) : W p l e room_1 s m #[Value.ref b] below meth c Hp locs 18 7200 (lw_Z below #[Value.ref b] s) (F0 m 196 ls []) := by
  obtain ⟨hx, hb, hr, hml, hown, hts0, hX, hbl, hlocks, hgv⟩ := C0
  have hts := fun w h => hts0 w (wsL_law_in w h)
  have hown : s.vm.findClass RL = some m.cls := hown
  have hbA : ¬ A b := fun h => absurd hbl (Nat.not_lt.mpr (hA2 _ h))
  have hK0 := hK.sub (tys' := tk_t0 ca) [0, 1, 2, 3, 4, 5, 6, 7] rfl
  have hK1 := hK.sub (tys' := tk_t1 cb) [8, 9, 10, 11, 12, 13, 14, 15] rfl
  have hinv0 := hinv
  obtain ⟨hT, hW, hL0, hG, hZ, hF⟩ := hinv0
  have hn := hT.1.2
  have hn1 := hT.1.1
  have hP0 : va_P (dC, dI) vwCl (tk_w0 o0 q ca aP aH aT aA aG aK aZ aS n) Hp := hP.sub [0, 1, 2, 3, 4, 5, 6, 7, 8] rfl
  have hP1 : va_P (dC, dI) vwCl (tk_w1 o1 q1 cb aP aH aT aG aL aA aF aS n) Hp := hP.sub [9, 10, 11, 12, 13, 14, 15, 16, 17] rfl
  refine lv_aload_n hx hb dL_law_196 rfl (lv_at hl 2 rfl) ?_
  refine lv_aload_n hx hb dL_law_197 rfl (lv_at hl 3 rfl) ?_
  refine lv_iload_n hx hb dL_law_198 rfl (lv_at hl 0 rfl) ?_
  refine lv_iconst (v := nI 1) hx hb dL_law_199 (by decide +kernel) ?_
  refine lv_iadd hx hb dL_law_200 ?_
  refine tk_top (y := nI (i + 1)) (nI_add i 1) ?_
  refine tk_sld hx hb hX hbl hbA hS (i + 1) (by omega) (by omega) dL_law_201 ?_
  refine vp_callSi (W.runV (As := [.int (xs (i + 1))]) (rest := []) ⟨hx, hb, hml, hown, hts⟩ (c0_due l dC dI o0 q ca aP aH aT aA aG aK aZ aS n pa he hT (xs (i + 1))) (cwV 1 hts gL_law_X0_due rfl rfl rfl (by decide +kernel) ⟨Nat.le_of_ble_eq_true rfl, Nat.le_of_ble_eq_true rfl⟩) (tk_pre hK0 hP0 rfl rfl) rfl rfl hl.1 rfl (lv_room (Nat.le_of_ble_eq_true rfl)) dL_law_202 ⟨Nat.le_of_ble_eq_true rfl, Nat.le_of_ble_eq_true rfl⟩) (fun r0 hr0 => ?_)
  refine lv_aload_n hx hb dL_law_205 rfl (lv_at hl 1 rfl) ?_
  refine lv_aload_n hx hb dL_law_206 rfl (lv_at hl 3 rfl) ?_
  refine lv_iload_n hx hb dL_law_207 rfl (lv_at hl 0 rfl) ?_
  refine lv_iconst (v := nI 1) hx hb dL_law_208 (by decide +kernel) ?_
  refine lv_iadd hx hb dL_law_209 ?_
  refine tk_top (y := nI (i + 1)) (nI_add i 1) ?_
  refine tk_sld hx hb hX hbl hbA hS (i + 1) (by omega) (by omega) dL_law_210 ?_
  refine vp_callSi (W.runV (As := [.int (xs (i + 1))]) (rest := [.int r0]) ⟨hx, hb, hml, hown, hts⟩ (c1_due l dC dI o1 q1 cb aP aH aT aG aL aA aF aS n pa he hT (xs (i + 1))) (cwV 1 hts gL_law_X1_due rfl rfl rfl (by decide +kernel) ⟨Nat.le_of_ble_eq_true rfl, Nat.le_of_ble_eq_true rfl⟩) (tk_pre hK1 hP1 rfl rfl) rfl rfl hl.1 rfl (lv_room (Nat.le_of_ble_eq_true rfl)) dL_law_211 ⟨Nat.le_of_ble_eq_true rfl, Nat.le_of_ble_eq_true rfl⟩) (fun r1 hr1 => ?_)
  refine lv_icmp_eq (tgt := 322) hx hb dL_law_214 (by decide) (fun hc214 => ?_) (fun hc214 => ?_)
  · refine lv_iinc (k := 0) (v := nI (i + 4)) hx hb dL_law_322 hl rfl (tk_inc4 i) (by decide) rfl (fun ls hl => ?_)
    have hl : lv_has ls 4 [(3, .int (nI (i + 4))), (2, .ref o1), (1, .ref o0), (0, .ref b)] := hl
    refine lv_goto (tgt := 18) hx hb dL_law_325 (by decide) ?_
    exact ih (i + 4) aP aH aT aA aG aK aZ aS aL aF n pa he wk Hp locs ls (by omega) (by omega) hinv hP hD hS hl
  · exact absurd (hr0.trans hr1.symm) hc214
set_option maxHeartbeats 4000000 in
set_option maxRecDepth 100000 in
theorem tk_law_median {p : Program} {e : Env} {s : State} {m : MethodId} {below : List Frame} {meth : Method} {c : Code} (l : Launch) {b L : Nat} {xs : Nat → Int32} (hL : L ≤ 2048) (C0 : lw_At p s m meth c b L xs) (dC : Nat → ClassId) (dI : Nat → Nat → Nat) (o0 : Nat) (q : Nat → Nat) (ca : Nat → ClassId) (o1 : Nat) (q1 : Nat → Nat) (cb : Nat → ClassId) (hK : va_K (dC, dI) vwCl (tk_t0 ca ++ tk_t1 cb) s) (A : Nat → Prop) (hA : ∀ x, s.heap.size ≤ x → A x) (hA2 : ∀ x, A x → s.heap.size ≤ x) (i k : Nat) (ih : ∀ (i : Nat) (aP aH aT aA aG aK aZ aS : Nat → Int32) (aL : Nat → Int64) (aF : Nat → Int32) (n : Nat) (pa he wk : Nat → Nat) (Hp : Heap) (locs : List Loc) (ls : Array Slot), L ≤ i + k → i ≤ 2060 → tk_inv aP aH aT aA aG aK aZ aL aF pa he wk n → va_P (dC, dI) vwCl (tk_w0 o0 q ca aP aH aT aA aG aK aZ aS n ++ tk_w1 o1 q1 cb aP aH aT aG aL aA aF aS n) Hp → va_D A (tk_w0 o0 q ca aP aH aT aA aG aK aZ aS n ++ tk_w1 o1 q1 cb aP aH aT aG aL aA aF aS n) → va_S A s.heap Hp locs → lv_has ls 4 [(3, .int (nI i)), (2, .ref o1), (1, .ref o0), (0, .ref b)] → W p l e room_1 s m #[Value.ref b] below meth c Hp locs 18 7200 (lw_Z below #[Value.ref b] s) (F0 m 18 ls [])) (aP aH aT aA aG aK aZ aS : Nat → Int32) (aL : Nat → Int64) (aF : Nat → Int32) (n : Nat) (pa he wk : Nat → Nat) (Hp : Heap) (locs : List Loc) (ls : Array Slot) (hk : L ≤ i + (k + 1)) (hi : i + 4 ≤ L) (hinv : tk_inv aP aH aT aA aG aK aZ aL aF pa he wk n) (hP : va_P (dC, dI) vwCl (tk_w0 o0 q ca aP aH aT aA aG aK aZ aS n ++ tk_w1 o1 q1 cb aP aH aT aG aL aA aF aS n) Hp) (hD : va_D A (tk_w0 o0 q ca aP aH aT aA aG aK aZ aS n ++ tk_w1 o1 q1 cb aP aH aT aG aL aA aF aS n)) (hS : va_S A s.heap Hp locs) (hl : lv_has ls 4 [(3, .int (nI i)), (2, .ref o1), (1, .ref o0), (0, .ref b)]) : W p l e room_1 s m #[Value.ref b] below meth c Hp locs 18 7200 (lw_Z below #[Value.ref b] s) (F0 m 219 ls []) := by
  obtain ⟨hx, hb, hr, hml, hown, hts0, hX, hbl, hlocks, hgv⟩ := C0
  have hts := fun w h => hts0 w (wsL_law_in w h)
  have hown : s.vm.findClass RL = some m.cls := hown
  have hbA : ¬ A b := fun h => absurd hbl (Nat.not_lt.mpr (hA2 _ h))
  have hK0 := hK.sub (tys' := tk_t0 ca) [0, 1, 2, 3, 4, 5, 6, 7] rfl
  have hK1 := hK.sub (tys' := tk_t1 cb) [8, 9, 10, 11, 12, 13, 14, 15] rfl
  have hinv0 := hinv
  obtain ⟨hT, hW, hL0, hG, hZ, hF⟩ := hinv0
  have hn := hT.1.2
  have hn1 := hT.1.1
  have hP0 : va_P (dC, dI) vwCl (tk_w0 o0 q ca aP aH aT aA aG aK aZ aS n) Hp := hP.sub [0, 1, 2, 3, 4, 5, 6, 7, 8] rfl
  have hP1 : va_P (dC, dI) vwCl (tk_w1 o1 q1 cb aP aH aT aG aL aA aF aS n) Hp := hP.sub [9, 10, 11, 12, 13, 14, 15, 16, 17] rfl
  refine lv_aload_n hx hb dL_law_219 rfl (lv_at hl 2 rfl) ?_
  refine lv_aload_n hx hb dL_law_220 rfl (lv_at hl 3 rfl) ?_
  refine lv_iload_n hx hb dL_law_221 rfl (lv_at hl 0 rfl) ?_
  refine lv_iconst (v := nI 1) hx hb dL_law_222 (by decide +kernel) ?_
  refine lv_iadd hx hb dL_law_223 ?_
  refine tk_top (y := nI (i + 1)) (nI_add i 1) ?_
  refine tk_sld hx hb hX hbl hbA hS (i + 1) (by omega) (by omega) dL_law_224 ?_
  have hFc := va_free (wc := tk_w0 o0 q ca aP aH aT aA aG aK aZ aS n) hD hS hA [0, 1, 2, 3, 4, 5, 6, 7, 8] rfl
  refine va_calli (va_runV (As := [.int (xs (i + 1))]) (rest := []) ⟨hx, hb, hml, hown, hts⟩ (c0_median l dC dI o0 q ca aP aH aT aA aG aK aZ aS n _ pa he hT (xs (i + 1))) (cwV 1 hts gL_law_X0_median rfl rfl rfl (by decide +kernel) ⟨Nat.le_of_ble_eq_true rfl, Nat.le_of_ble_eq_true rfl⟩) (tk_preW hK0 hP0 (hD.sub (ws' := tk_w0 o0 q ca aP aH aT aA aG aK aZ aS n) [0, 1, 2, 3, 4, 5, 6, 7, 8] (by decide) rfl) rfl rfl) rfl rfl hl.1 rfl (lv_room (Nat.le_of_ble_eq_true rfl)) dL_law_225 ⟨Nat.le_of_ble_eq_true rfl, Nat.le_of_ble_eq_true rfl⟩) hS (fun q9 _ h9 => hFc q9 h9) hFc (fun r0 u0 t0 Hp2 locs ht0 hvm0 hr0 hB0 hz0 hk0 hS => ?_)
  obtain ⟨hP9, hK9, hD9⟩ := hB0
  rw [ht0] at hP9
  obtain ⟨hP2, hD2⟩ := va_join (wr := tk_w1 o1 q1 cb aP aH aT aG aL aA aF aS n) (w1 := u0) hP hD [0, 1, 2, 3, 4, 5, 6, 7, 8] [9, 10, 11, 12, 13, 14, 15, 16, 17] rfl rfl (by decide) (by decide) hk0 hFc hP9 hD9
  have hP1 : va_P (dC, dI) vwCl (tk_w1 o1 q1 cb aP aH aT aG aL aA aF aS n) Hp2 := hP2.sub [0, 1, 2, 3, 4, 5, 6, 7, 8] rfl
  refine lv_aload_n hx hb dL_law_228 rfl (lv_at hl 1 rfl) ?_
  refine lv_aload_n hx hb dL_law_229 rfl (lv_at hl 3 rfl) ?_
  refine lv_iload_n hx hb dL_law_230 rfl (lv_at hl 0 rfl) ?_
  refine lv_iconst (v := nI 1) hx hb dL_law_231 (by decide +kernel) ?_
  refine lv_iadd hx hb dL_law_232 ?_
  refine tk_top (y := nI (i + 1)) (nI_add i 1) ?_
  refine tk_sld hx hb hX hbl hbA hS (i + 1) (by omega) (by omega) dL_law_233 ?_
  have hFc1 := va_free (wc := tk_w1 o1 q1 cb aP aH aT aG aL aA aF aS n) hD2 hS hA [0, 1, 2, 3, 4, 5, 6, 7, 8] rfl
  refine va_calli (va_runV (As := [.int (xs (i + 1))]) (rest := [.int r0]) ⟨hx, hb, hml, hown, hts⟩ (c1_median l dC dI o1 q1 cb aP aH aT aG aL aA aF aS n _ pa he hT (xs (i + 1))) (cwV 1 hts gL_law_X1_median rfl rfl rfl (by decide +kernel) ⟨Nat.le_of_ble_eq_true rfl, Nat.le_of_ble_eq_true rfl⟩) (tk_preW hK1 hP1 (hD2.sub (ws' := tk_w1 o1 q1 cb aP aH aT aG aL aA aF aS n) [0, 1, 2, 3, 4, 5, 6, 7, 8] (by decide) rfl) rfl rfl) rfl rfl hl.1 rfl (lv_room (Nat.le_of_ble_eq_true rfl)) dL_law_234 ⟨Nat.le_of_ble_eq_true rfl, Nat.le_of_ble_eq_true rfl⟩) hS (fun q9 _ h9 => hFc1 q9 h9) hFc1 (fun r1 u1 t1 Hp3 locs ht1 hvm1 hr1 hB1 hz1 hk1 hS => ?_)
  obtain ⟨hP8, hK8, hD8⟩ := hB1
  rw [ht1] at hP8
  obtain ⟨hrr, aP2, aH2, aT2, aA2, aG2, aK2, aZ2, aS2, aL2, aF2, n2, pa2, he2, wk2, hinv2, rfl, rfl⟩ := tk_st_md hinv hr0 hr1
  obtain ⟨hP3, hD3⟩ := va_join (wr := tk_w0 o0 q ca aP2 aH2 aT2 aA2 aG2 aK2 aZ2 aS2 n2) (w1 := tk_w1 o1 q1 cb aP2 aH2 aT2 aG2 aL2 aA2 aF2 aS2 n2) hP2 hD2 [0, 1, 2, 3, 4, 5, 6, 7, 8] [9, 10, 11, 12, 13, 14, 15, 16, 17] rfl rfl (by decide) (by decide) hk1 hFc1 hP8 hD8
  refine lv_icmp_eq (tgt := 322) hx hb dL_law_237 (by decide) (fun hc237 => ?_) (fun hc237 => ?_)
  · refine lv_iinc (k := 0) (v := nI (i + 4)) hx hb dL_law_322 hl rfl (tk_inc4 i) (by decide) rfl (fun ls hl => ?_)
    have hl : lv_has ls 4 [(3, .int (nI (i + 4))), (2, .ref o1), (1, .ref o0), (0, .ref b)] := hl
    refine lv_goto (tgt := 18) hx hb dL_law_325 (by decide) ?_
    exact ih (i + 4) aP2 aH2 aT2 aA2 aG2 aK2 aZ2 aS2 aL2 aF2 n2 pa2 he2 wk2 Hp3 locs ls (by omega) (by omega) hinv2 hP3 hD3 hS hl
  · exact absurd hrr hc237
set_option maxHeartbeats 4000000 in
set_option maxRecDepth 100000 in
theorem tk_law_ancestor {p : Program} {e : Env} {s : State} {m : MethodId} {below : List Frame} {meth : Method} {c : Code} (l : Launch) {b L : Nat} {xs : Nat → Int32} (hL : L ≤ 2048) (C0 : lw_At p s m meth c b L xs) (dC : Nat → ClassId) (dI : Nat → Nat → Nat) (o0 : Nat) (q : Nat → Nat) (ca : Nat → ClassId) (o1 : Nat) (q1 : Nat → Nat) (cb : Nat → ClassId) (hK : va_K (dC, dI) vwCl (tk_t0 ca ++ tk_t1 cb) s) (A : Nat → Prop) (hA : ∀ x, s.heap.size ≤ x → A x) (hA2 : ∀ x, A x → s.heap.size ≤ x) (i k : Nat) (ih : ∀ (i : Nat) (aP aH aT aA aG aK aZ aS : Nat → Int32) (aL : Nat → Int64) (aF : Nat → Int32) (n : Nat) (pa he wk : Nat → Nat) (Hp : Heap) (locs : List Loc) (ls : Array Slot), L ≤ i + k → i ≤ 2060 → tk_inv aP aH aT aA aG aK aZ aL aF pa he wk n → va_P (dC, dI) vwCl (tk_w0 o0 q ca aP aH aT aA aG aK aZ aS n ++ tk_w1 o1 q1 cb aP aH aT aG aL aA aF aS n) Hp → va_D A (tk_w0 o0 q ca aP aH aT aA aG aK aZ aS n ++ tk_w1 o1 q1 cb aP aH aT aG aL aA aF aS n) → va_S A s.heap Hp locs → lv_has ls 4 [(3, .int (nI i)), (2, .ref o1), (1, .ref o0), (0, .ref b)] → W p l e room_1 s m #[Value.ref b] below meth c Hp locs 18 7200 (lw_Z below #[Value.ref b] s) (F0 m 18 ls [])) (aP aH aT aA aG aK aZ aS : Nat → Int32) (aL : Nat → Int64) (aF : Nat → Int32) (n : Nat) (pa he wk : Nat → Nat) (Hp : Heap) (locs : List Loc) (ls : Array Slot) (hk : L ≤ i + (k + 1)) (hi : i + 4 ≤ L) (hinv : tk_inv aP aH aT aA aG aK aZ aL aF pa he wk n) (hP : va_P (dC, dI) vwCl (tk_w0 o0 q ca aP aH aT aA aG aK aZ aS n ++ tk_w1 o1 q1 cb aP aH aT aG aL aA aF aS n) Hp) (hD : va_D A (tk_w0 o0 q ca aP aH aT aA aG aK aZ aS n ++ tk_w1 o1 q1 cb aP aH aT aG aL aA aF aS n)) (hS : va_S A s.heap Hp locs) (hl : lv_has ls 4 [(3, .int (nI i)), (2, .ref o1), (1, .ref o0), (0, .ref b)]) : W p l e room_1 s m #[Value.ref b] below meth c Hp locs 18 7200 (lw_Z below #[Value.ref b] s) (F0 m 242 ls []) := by
  obtain ⟨hx, hb, hr, hml, hown, hts0, hX, hbl, hlocks, hgv⟩ := C0
  have hts := fun w h => hts0 w (wsL_law_in w h)
  have hown : s.vm.findClass RL = some m.cls := hown
  have hbA : ¬ A b := fun h => absurd hbl (Nat.not_lt.mpr (hA2 _ h))
  have hK0 := hK.sub (tys' := tk_t0 ca) [0, 1, 2, 3, 4, 5, 6, 7] rfl
  have hK1 := hK.sub (tys' := tk_t1 cb) [8, 9, 10, 11, 12, 13, 14, 15] rfl
  have hinv0 := hinv
  obtain ⟨hT, hW, hL0, hG, hZ, hF⟩ := hinv0
  have hn := hT.1.2
  have hn1 := hT.1.1
  have hP0 : va_P (dC, dI) vwCl (tk_w0 o0 q ca aP aH aT aA aG aK aZ aS n) Hp := hP.sub [0, 1, 2, 3, 4, 5, 6, 7, 8] rfl
  have hP1 : va_P (dC, dI) vwCl (tk_w1 o1 q1 cb aP aH aT aG aL aA aF aS n) Hp := hP.sub [9, 10, 11, 12, 13, 14, 15, 16, 17] rfl
  refine lv_aload_n hx hb dL_law_242 rfl (lv_at hl 2 rfl) ?_
  refine lv_aload_n hx hb dL_law_243 rfl (lv_at hl 3 rfl) ?_
  refine lv_iload_n hx hb dL_law_244 rfl (lv_at hl 0 rfl) ?_
  refine lv_iconst (v := nI 1) hx hb dL_law_245 (by decide +kernel) ?_
  refine lv_iadd hx hb dL_law_246 ?_
  refine tk_top (y := nI (i + 1)) (nI_add i 1) ?_
  refine tk_sld hx hb hX hbl hbA hS (i + 1) (by omega) (by omega) dL_law_247 ?_
  refine lv_aload_n hx hb dL_law_248 rfl (lv_at hl 3 rfl) ?_
  refine lv_iload_n hx hb dL_law_249 rfl (lv_at hl 0 rfl) ?_
  refine lv_iconst (v := nI 2) hx hb dL_law_250 (by decide +kernel) ?_
  refine lv_iadd hx hb dL_law_251 ?_
  refine tk_top (y := nI (i + 2)) (nI_add i 2) ?_
  refine tk_sld hx hb hX hbl hbA hS (i + 2) (by omega) (by omega) dL_law_252 ?_
  refine vp_callSi (W.runV (As := [.int (xs (i + 1)), .int (xs (i + 2))]) (rest := []) ⟨hx, hb, hml, hown, hts⟩ (c0_ancestor l dC dI o0 q ca aP aH aT aA aG aK aZ aS n pa he hT (xs (i + 1)) (xs (i + 2))) (cwV 2 hts gL_law_X0_ancestor rfl rfl rfl (by decide +kernel) ⟨Nat.le_of_ble_eq_true rfl, Nat.le_of_ble_eq_true rfl⟩) (tk_pre hK0 hP0 rfl rfl) rfl rfl hl.1 rfl (lv_room (Nat.le_of_ble_eq_true rfl)) dL_law_253 ⟨Nat.le_of_ble_eq_true rfl, Nat.le_of_ble_eq_true rfl⟩) (fun r0 hr0 => ?_)
  refine lv_aload_n hx hb dL_law_256 rfl (lv_at hl 1 rfl) ?_
  refine lv_aload_n hx hb dL_law_257 rfl (lv_at hl 3 rfl) ?_
  refine lv_iload_n hx hb dL_law_258 rfl (lv_at hl 0 rfl) ?_
  refine lv_iconst (v := nI 1) hx hb dL_law_259 (by decide +kernel) ?_
  refine lv_iadd hx hb dL_law_260 ?_
  refine tk_top (y := nI (i + 1)) (nI_add i 1) ?_
  refine tk_sld hx hb hX hbl hbA hS (i + 1) (by omega) (by omega) dL_law_261 ?_
  refine lv_aload_n hx hb dL_law_262 rfl (lv_at hl 3 rfl) ?_
  refine lv_iload_n hx hb dL_law_263 rfl (lv_at hl 0 rfl) ?_
  refine lv_iconst (v := nI 2) hx hb dL_law_264 (by decide +kernel) ?_
  refine lv_iadd hx hb dL_law_265 ?_
  refine tk_top (y := nI (i + 2)) (nI_add i 2) ?_
  refine tk_sld hx hb hX hbl hbA hS (i + 2) (by omega) (by omega) dL_law_266 ?_
  refine vp_callSi (W.runV (As := [.int (xs (i + 1)), .int (xs (i + 2))]) (rest := [.int r0]) ⟨hx, hb, hml, hown, hts⟩ (c1_ancestor l dC dI o1 q1 cb aP aH aT aG aL aA aF aS n pa he hT (xs (i + 1)) (xs (i + 2))) (cwV 2 hts gL_law_X1_ancestor rfl rfl rfl (by decide +kernel) ⟨Nat.le_of_ble_eq_true rfl, Nat.le_of_ble_eq_true rfl⟩) (tk_pre hK1 hP1 rfl rfl) rfl rfl hl.1 rfl (lv_room (Nat.le_of_ble_eq_true rfl)) dL_law_267 ⟨Nat.le_of_ble_eq_true rfl, Nat.le_of_ble_eq_true rfl⟩) (fun r1 hr1 => ?_)
  refine lv_icmp_eq (tgt := 322) hx hb dL_law_270 (by decide) (fun hc270 => ?_) (fun hc270 => ?_)
  · refine lv_iinc (k := 0) (v := nI (i + 4)) hx hb dL_law_322 hl rfl (tk_inc4 i) (by decide) rfl (fun ls hl => ?_)
    have hl : lv_has ls 4 [(3, .int (nI (i + 4))), (2, .ref o1), (1, .ref o0), (0, .ref b)] := hl
    refine lv_goto (tgt := 18) hx hb dL_law_325 (by decide) ?_
    exact ih (i + 4) aP aH aT aA aG aK aZ aS aL aF n pa he wk Hp locs ls (by omega) (by omega) hinv hP hD hS hl
  · exact absurd (hr0.trans hr1.symm) hc270
set_option maxHeartbeats 4000000 in
set_option maxRecDepth 100000 in
theorem tk_law_look {p : Program} {e : Env} {s : State} {m : MethodId} {below : List Frame} {meth : Method} {c : Code} (l : Launch) {b L : Nat} {xs : Nat → Int32} (hL : L ≤ 2048) (C0 : lw_At p s m meth c b L xs) (dC : Nat → ClassId) (dI : Nat → Nat → Nat) (o0 : Nat) (q : Nat → Nat) (ca : Nat → ClassId) (o1 : Nat) (q1 : Nat → Nat) (cb : Nat → ClassId) (hK : va_K (dC, dI) vwCl (tk_t0 ca ++ tk_t1 cb) s) (A : Nat → Prop) (hA : ∀ x, s.heap.size ≤ x → A x) (hA2 : ∀ x, A x → s.heap.size ≤ x) (i k : Nat) (ih : ∀ (i : Nat) (aP aH aT aA aG aK aZ aS : Nat → Int32) (aL : Nat → Int64) (aF : Nat → Int32) (n : Nat) (pa he wk : Nat → Nat) (Hp : Heap) (locs : List Loc) (ls : Array Slot), L ≤ i + k → i ≤ 2060 → tk_inv aP aH aT aA aG aK aZ aL aF pa he wk n → va_P (dC, dI) vwCl (tk_w0 o0 q ca aP aH aT aA aG aK aZ aS n ++ tk_w1 o1 q1 cb aP aH aT aG aL aA aF aS n) Hp → va_D A (tk_w0 o0 q ca aP aH aT aA aG aK aZ aS n ++ tk_w1 o1 q1 cb aP aH aT aG aL aA aF aS n) → va_S A s.heap Hp locs → lv_has ls 4 [(3, .int (nI i)), (2, .ref o1), (1, .ref o0), (0, .ref b)] → W p l e room_1 s m #[Value.ref b] below meth c Hp locs 18 7200 (lw_Z below #[Value.ref b] s) (F0 m 18 ls [])) (aP aH aT aA aG aK aZ aS : Nat → Int32) (aL : Nat → Int64) (aF : Nat → Int32) (n : Nat) (pa he wk : Nat → Nat) (Hp : Heap) (locs : List Loc) (ls : Array Slot) (hk : L ≤ i + (k + 1)) (hi : i + 4 ≤ L) (hinv : tk_inv aP aH aT aA aG aK aZ aL aF pa he wk n) (hP : va_P (dC, dI) vwCl (tk_w0 o0 q ca aP aH aT aA aG aK aZ aS n ++ tk_w1 o1 q1 cb aP aH aT aG aL aA aF aS n) Hp) (hD : va_D A (tk_w0 o0 q ca aP aH aT aA aG aK aZ aS n ++ tk_w1 o1 q1 cb aP aH aT aG aL aA aF aS n)) (hS : va_S A s.heap Hp locs) (hl : lv_has ls 4 [(3, .int (nI i)), (2, .ref o1), (1, .ref o0), (0, .ref b)]) : W p l e room_1 s m #[Value.ref b] below meth c Hp locs 18 7200 (lw_Z below #[Value.ref b] s) (F0 m 275 ls []) := by
  obtain ⟨hx, hb, hr, hml, hown, hts0, hX, hbl, hlocks, hgv⟩ := C0
  have hts := fun w h => hts0 w (wsL_law_in w h)
  have hown : s.vm.findClass RL = some m.cls := hown
  have hbA : ¬ A b := fun h => absurd hbl (Nat.not_lt.mpr (hA2 _ h))
  have hK0 := hK.sub (tys' := tk_t0 ca) [0, 1, 2, 3, 4, 5, 6, 7] rfl
  have hK1 := hK.sub (tys' := tk_t1 cb) [8, 9, 10, 11, 12, 13, 14, 15] rfl
  have hinv0 := hinv
  obtain ⟨hT, hW, hL0, hG, hZ, hF⟩ := hinv0
  have hn := hT.1.2
  have hn1 := hT.1.1
  have hP0 : va_P (dC, dI) vwCl (tk_w0 o0 q ca aP aH aT aA aG aK aZ aS n) Hp := hP.sub [0, 1, 2, 3, 4, 5, 6, 7, 8] rfl
  have hP1 : va_P (dC, dI) vwCl (tk_w1 o1 q1 cb aP aH aT aG aL aA aF aS n) Hp := hP.sub [9, 10, 11, 12, 13, 14, 15, 16, 17] rfl
  have hKL : ∀ i, i < n → aL i = (aK i).toInt64 := fun i hi => by rw [(hL0 i hi).1, (hW i hi).1]; exact (nI_l (by have := (hW i hi).2; omega)).symm
  refine lv_aload_n hx hb dL_law_275 rfl (lv_at hl 2 rfl) ?_
  refine lv_aload_n hx hb dL_law_276 rfl (lv_at hl 3 rfl) ?_
  refine lv_iload_n hx hb dL_law_277 rfl (lv_at hl 0 rfl) ?_
  refine lv_iconst (v := nI 1) hx hb dL_law_278 (by decide +kernel) ?_
  refine lv_iadd hx hb dL_law_279 ?_
  refine tk_top (y := nI (i + 1)) (nI_add i 1) ?_
  refine tk_sld hx hb hX hbl hbA hS (i + 1) (by omega) (by omega) dL_law_280 ?_
  refine lv_aload_n hx hb dL_law_281 rfl (lv_at hl 3 rfl) ?_
  refine lv_iload_n hx hb dL_law_282 rfl (lv_at hl 0 rfl) ?_
  refine lv_iconst (v := nI 2) hx hb dL_law_283 (by decide +kernel) ?_
  refine lv_iadd hx hb dL_law_284 ?_
  refine tk_top (y := nI (i + 2)) (nI_add i 2) ?_
  refine tk_sld hx hb hX hbl hbA hS (i + 2) (by omega) (by omega) dL_law_285 ?_
  refine vp_callSl (W.runV (As := [.int (xs (i + 1)), .int (xs (i + 2))]) (rest := []) ⟨hx, hb, hml, hown, hts⟩ (c0_look l dC dI o0 q ca aP aH aT aA aG aK aZ aS n hn (xs (i + 1)) (xs (i + 2))) (cwV 2 hts gL_law_X0_look rfl rfl rfl (by decide +kernel) ⟨Nat.le_of_ble_eq_true rfl, Nat.le_of_ble_eq_true rfl⟩) (tk_pre hK0 hP0 rfl rfl) rfl rfl hl.1 rfl (lv_room (Nat.le_of_ble_eq_true rfl)) dL_law_286 ⟨Nat.le_of_ble_eq_true rfl, Nat.le_of_ble_eq_true rfl⟩) (fun r0 hr0 => ?_)
  refine lv_aload_n hx hb dL_law_289 rfl (lv_at hl 1 rfl) ?_
  refine lv_aload_n hx hb dL_law_290 rfl (lv_at hl 3 rfl) ?_
  refine lv_iload_n hx hb dL_law_291 rfl (lv_at hl 0 rfl) ?_
  refine lv_iconst (v := nI 1) hx hb dL_law_292 (by decide +kernel) ?_
  refine lv_iadd hx hb dL_law_293 ?_
  refine tk_top (y := nI (i + 1)) (nI_add i 1) ?_
  refine tk_sld hx hb hX hbl hbA hS (i + 1) (by omega) (by omega) dL_law_294 ?_
  refine lv_aload_n hx hb dL_law_295 rfl (lv_at hl 3 rfl) ?_
  refine lv_iload_n hx hb dL_law_296 rfl (lv_at hl 0 rfl) ?_
  refine lv_iconst (v := nI 2) hx hb dL_law_297 (by decide +kernel) ?_
  refine lv_iadd hx hb dL_law_298 ?_
  refine tk_top (y := nI (i + 2)) (nI_add i 2) ?_
  refine tk_sld hx hb hX hbl hbA hS (i + 2) (by omega) (by omega) dL_law_299 ?_
  refine vp_callSl (W.runV (As := [.int (xs (i + 1)), .int (xs (i + 2))]) (rest := [.long r0]) ⟨hx, hb, hml, hown, hts⟩ (c1_look l dC dI o1 q1 cb aP aH aT aG aL aA aF aS n pa he hT aK aZ hZ hKL (xs (i + 1)) (xs (i + 2))) (cwV 2 hts gL_law_X1_look rfl rfl rfl (by decide +kernel) ⟨Nat.le_of_ble_eq_true rfl, Nat.le_of_ble_eq_true rfl⟩) (tk_pre hK1 hP1 rfl rfl) rfl rfl hl.1 rfl (lv_room (Nat.le_of_ble_eq_true rfl)) dL_law_300 ⟨Nat.le_of_ble_eq_true rfl, Nat.le_of_ble_eq_true rfl⟩) (fun r1 hr1 => ?_)
  refine tk_lcmp (v := lg_cmp r0 r1) hx hb dL_law_303 rfl ?_
  refine lv_if_eq (tgt := 322) hx hb dL_law_304 (by decide) (fun hc304 => ?_) (fun hc304 => ?_)
  · refine lv_iinc (k := 0) (v := nI (i + 4)) hx hb dL_law_322 hl rfl (tk_inc4 i) (by decide) rfl (fun ls hl => ?_)
    have hl : lv_has ls 4 [(3, .int (nI (i + 4))), (2, .ref o1), (1, .ref o0), (0, .ref b)] := hl
    refine lv_goto (tgt := 18) hx hb dL_law_325 (by decide) ?_
    exact ih (i + 4) aP aH aT aA aG aK aZ aS aL aF n pa he wk Hp locs ls (by omega) (by omega) hinv hP hD hS hl
  · exact absurd (tk_cmp_same (hr0.trans hr1.symm)) hc304
set_option maxHeartbeats 4000000 in
set_option maxRecDepth 100000 in
theorem tk_law_blocks {p : Program} {e : Env} {s : State} {m : MethodId} {below : List Frame} {meth : Method} {c : Code} (l : Launch) {b L : Nat} {xs : Nat → Int32} (hL : L ≤ 2048) (C0 : lw_At p s m meth c b L xs) (dC : Nat → ClassId) (dI : Nat → Nat → Nat) (o0 : Nat) (q : Nat → Nat) (ca : Nat → ClassId) (o1 : Nat) (q1 : Nat → Nat) (cb : Nat → ClassId) (hK : va_K (dC, dI) vwCl (tk_t0 ca ++ tk_t1 cb) s) (A : Nat → Prop) (hA : ∀ x, s.heap.size ≤ x → A x) (hA2 : ∀ x, A x → s.heap.size ≤ x) (i k : Nat) (ih : ∀ (i : Nat) (aP aH aT aA aG aK aZ aS : Nat → Int32) (aL : Nat → Int64) (aF : Nat → Int32) (n : Nat) (pa he wk : Nat → Nat) (Hp : Heap) (locs : List Loc) (ls : Array Slot), L ≤ i + k → i ≤ 2060 → tk_inv aP aH aT aA aG aK aZ aL aF pa he wk n → va_P (dC, dI) vwCl (tk_w0 o0 q ca aP aH aT aA aG aK aZ aS n ++ tk_w1 o1 q1 cb aP aH aT aG aL aA aF aS n) Hp → va_D A (tk_w0 o0 q ca aP aH aT aA aG aK aZ aS n ++ tk_w1 o1 q1 cb aP aH aT aG aL aA aF aS n) → va_S A s.heap Hp locs → lv_has ls 4 [(3, .int (nI i)), (2, .ref o1), (1, .ref o0), (0, .ref b)] → W p l e room_1 s m #[Value.ref b] below meth c Hp locs 18 7200 (lw_Z below #[Value.ref b] s) (F0 m 18 ls [])) (aP aH aT aA aG aK aZ aS : Nat → Int32) (aL : Nat → Int64) (aF : Nat → Int32) (n : Nat) (pa he wk : Nat → Nat) (Hp : Heap) (locs : List Loc) (ls : Array Slot) (hk : L ≤ i + (k + 1)) (hi : i + 4 ≤ L) (hinv : tk_inv aP aH aT aA aG aK aZ aL aF pa he wk n) (hP : va_P (dC, dI) vwCl (tk_w0 o0 q ca aP aH aT aA aG aK aZ aS n ++ tk_w1 o1 q1 cb aP aH aT aG aL aA aF aS n) Hp) (hD : va_D A (tk_w0 o0 q ca aP aH aT aA aG aK aZ aS n ++ tk_w1 o1 q1 cb aP aH aT aG aL aA aF aS n)) (hS : va_S A s.heap Hp locs) (hl : lv_has ls 4 [(3, .int (nI i)), (2, .ref o1), (1, .ref o0), (0, .ref b)]) : W p l e room_1 s m #[Value.ref b] below meth c Hp locs 18 7200 (lw_Z below #[Value.ref b] s) (F0 m 309 ls []) := by
  obtain ⟨hx, hb, hr, hml, hown, hts0, hX, hbl, hlocks, hgv⟩ := C0
  have hts := fun w h => hts0 w (wsL_law_in w h)
  have hown : s.vm.findClass RL = some m.cls := hown
  have hbA : ¬ A b := fun h => absurd hbl (Nat.not_lt.mpr (hA2 _ h))
  have hK0 := hK.sub (tys' := tk_t0 ca) [0, 1, 2, 3, 4, 5, 6, 7] rfl
  have hK1 := hK.sub (tys' := tk_t1 cb) [8, 9, 10, 11, 12, 13, 14, 15] rfl
  have hinv0 := hinv
  obtain ⟨hT, hW, hL0, hG, hZ, hF⟩ := hinv0
  have hn := hT.1.2
  have hn1 := hT.1.1
  have hP0 : va_P (dC, dI) vwCl (tk_w0 o0 q ca aP aH aT aA aG aK aZ aS n) Hp := hP.sub [0, 1, 2, 3, 4, 5, 6, 7, 8] rfl
  have hP1 : va_P (dC, dI) vwCl (tk_w1 o1 q1 cb aP aH aT aG aL aA aF aS n) Hp := hP.sub [9, 10, 11, 12, 13, 14, 15, 16, 17] rfl
  refine lv_aload_n hx hb dL_law_309 rfl (lv_at hl 2 rfl) ?_
  refine vp_callSi (W.runV (As := []) (rest := []) ⟨hx, hb, hml, hown, hts⟩ (c0_blocks l dC dI o0 q ca aP aH aT aA aG aK aZ aS n) (cwV 0 hts gL_law_X0_blocks rfl rfl rfl (by decide +kernel) ⟨Nat.le_of_ble_eq_true rfl, Nat.le_of_ble_eq_true rfl⟩) (tk_pre hK0 hP0 rfl rfl) rfl rfl hl.1 rfl (lv_room (Nat.le_of_ble_eq_true rfl)) dL_law_310 ⟨Nat.le_of_ble_eq_true rfl, Nat.le_of_ble_eq_true rfl⟩) (fun r0 hr0 => ?_)
  refine lv_aload_n hx hb dL_law_313 rfl (lv_at hl 1 rfl) ?_
  refine vp_callSi (W.runV (As := []) (rest := [.int r0]) ⟨hx, hb, hml, hown, hts⟩ (c1_blocks l dC dI o1 q1 cb aP aH aT aG aL aA aF aS n) (cwV 0 hts gL_law_X1_blocks rfl rfl rfl (by decide +kernel) ⟨Nat.le_of_ble_eq_true rfl, Nat.le_of_ble_eq_true rfl⟩) (tk_pre hK1 hP1 rfl rfl) rfl rfl hl.1 rfl (lv_room (Nat.le_of_ble_eq_true rfl)) dL_law_314 ⟨Nat.le_of_ble_eq_true rfl, Nat.le_of_ble_eq_true rfl⟩) (fun r1 hr1 => ?_)
  refine lv_icmp_eq (tgt := 322) hx hb dL_law_317 (by decide) (fun hc317 => ?_) (fun hc317 => ?_)
  · refine lv_iinc (k := 0) (v := nI (i + 4)) hx hb dL_law_322 hl rfl (tk_inc4 i) (by decide) rfl (fun ls hl => ?_)
    have hl : lv_has ls 4 [(3, .int (nI (i + 4))), (2, .ref o1), (1, .ref o0), (0, .ref b)] := hl
    refine lv_goto (tgt := 18) hx hb dL_law_325 (by decide) ?_
    exact ih (i + 4) aP aH aT aA aG aK aZ aS aL aF n pa he wk Hp locs ls (by omega) (by omega) hinv hP hD hS hl
  · exact absurd (hr0.trans hr1.symm) hc317
