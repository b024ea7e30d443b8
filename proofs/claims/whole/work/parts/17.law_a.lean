set_option maxHeartbeats 4000000 in
set_option maxRecDepth 100000 in
theorem tk_law_add {p : Program} {e : Env} {s : State} {m : MethodId} {below : List Frame} {meth : Method} {c : Code} (l : Launch) {b L : Nat} {xs : Nat → Int32} (hL : L ≤ 2048) (C0 : lw_At p s m meth c b L xs) (dC : Nat → ClassId) (dI : Nat → Nat → Nat) (o0 : Nat) (q : Nat → Nat) (ca : Nat → ClassId) (o1 : Nat) (q1 : Nat → Nat) (cb : Nat → ClassId) (hK : va_K (dC, dI) vwCl (tk_t0 ca ++ tk_t1 cb) s) (A : Nat → Prop) (hA : ∀ x, s.heap.size ≤ x → A x) (hA2 : ∀ x, A x → s.heap.size ≤ x) (i k : Nat) (ih : ∀ (i : Nat) (aP aH aT aA aG aK aZ aS : Nat → Int32) (aL : Nat → Int64) (aF : Nat → Int32) (n : Nat) (pa he wk : Nat → Nat) (Hp : Heap) (locs : List Loc) (ls : Array Slot), L ≤ i + k → i ≤ 2060 → tk_inv aP aH aT aA aG aK aZ aL aF pa he wk n → va_P (dC, dI) vwCl (tk_w0 o0 q ca aP aH aT aA aG aK aZ aS n ++ tk_w1 o1 q1 cb aP aH aT aG aL aA aF aS n) Hp → va_D A (tk_w0 o0 q ca aP aH aT aA aG aK aZ aS n ++ tk_w1 o1 q1 cb aP aH aT aG aL aA aF aS n) → va_S A s.heap Hp locs → lv_has ls 4 [(3, .int (nI i)), (2, .ref o1), (1, .ref o0), (0, .ref b)] → W p l e room_1 s m #[Value.ref b] below meth c Hp locs 18 7200 (lw_Z below #[Value.ref b] s) (F0 m 18 ls [])) (aP aH aT aA aG aK aZ aS : Nat → Int32) (aL : Nat → Int64) (aF : Nat → Int32) (n : Nat) (pa he wk : Nat → Nat) (Hp : Heap) (locs : List Loc) (ls : Array Slot) (hk : L ≤ i + (k + 1)) (hi : i + 4 ≤ L) (hinv : tk_inv aP aH aT aA aG aK aZ aL aF pa he wk n) (hP : va_P (dC, dI) vwCl (tk_w0 o0 q ca aP aH aT aA aG aK aZ aS n ++ tk_w1 o1 q1 cb aP aH aT aG aL aA aF aS n) Hp) (hD : va_D A (tk_w0 o0 q ca aP aH aT aA aG aK aZ aS n ++ tk_w1 o1 q1 cb aP aH aT aG aL aA aF aS n)) (hS : va_S A s.heap Hp locs) (hl : lv_has ls 4 [(3, .int (nI i)), (2, .ref o1), (1, .ref o0), (0, .ref b)]) : W p l e room_1 s m #[Value.ref b] below meth c Hp locs 18 7200 (lw_Z below #[Value.ref b] s) (F0 m 84 ls []) := by
  obtain ⟨hx, hb, hr, hml, hown, hts0, hX, hbl, hlocks, hgv⟩ := C0
  have hts := fun w h => hts0 w (wsL_law_in w h)
  have hown : s.vm.findClass RL = some m.cls := hown
  have hbA : ¬ A b := fun h => absurd hbl (Nat.not_lt.mpr (hA2 _ h))
  have hK0 := hK.sub (tys' := tk_t0 ca) [0, 1, 2, 3, 4, 5, 6, 7] rfl
  have hK1 := hK.sub (tys' := tk_t1 cb) [8, 9, 10, 11, 12, 13, 14, 15] rfl
  have hinv0 := hinv
  obtain ⟨hT, hW, hL0, hG, hZ, hF⟩ := hinv0
  have hn := hT.1.2
  have hn1 := hT.1.1
  have hP0 : va_P (dC, dI) vwCl (tk_w0 o0 q ca aP aH aT aA aG aK aZ aS n) Hp := hP.sub [0, 1, 2, 3, 4, 5, 6, 7, 8] rfl
  have hP1 : va_P (dC, dI) vwCl (tk_w1 o1 q1 cb aP aH aT aG aL aA aF aS n) Hp := hP.sub [9, 10, 11, 12, 13, 14, 15, 16, 17] rfl
  refine lv_aload_n hx hb dL_law_84 rfl (lv_at hl 2 rfl) ?_
  refine lv_aload_n hx hb dL_law_85 rfl (lv_at hl 3 rfl) ?_
  refine lv_iload_n hx hb dL_law_86 rfl (lv_at hl 0 rfl) ?_
  refine lv_iconst (v := nI 1) hx hb dL_law_87 (by decide +kernel) ?_
  refine lv_iadd hx hb dL_law_88 ?_
  refine tk_top (y := nI (i + 1)) (nI_add i 1) ?_
  refine tk_sld hx hb hX hbl hbA hS (i + 1) (by omega) (by omega) dL_law_89 ?_
  refine lv_aload_n hx hb dL_law_90 rfl (lv_at hl 3 rfl) ?_
  refine lv_iload_n hx hb dL_law_91 rfl (lv_at hl 0 rfl) ?_
  refine lv_iconst (v := nI 2) hx hb dL_law_92 (by decide +kernel) ?_
  refine lv_iadd hx hb dL_law_93 ?_
  refine tk_top (y := nI (i + 2)) (nI_add i 2) ?_
  refine tk_sld hx hb hX hbl hbA hS (i + 2) (by omega) (by omega) dL_law_94 ?_
  refine lv_aload_n hx hb dL_law_95 rfl (lv_at hl 3 rfl) ?_
  refine lv_iload_n hx hb dL_law_96 rfl (lv_at hl 0 rfl) ?_
  refine lv_iconst (v := nI 3) hx hb dL_law_97 (by decide +kernel) ?_
  refine lv_iadd hx hb dL_law_98 ?_
  refine tk_top (y := nI (i + 3)) (nI_add i 3) ?_
  refine tk_sld hx hb hX hbl hbA hS (i + 3) (by omega) (by omega) dL_law_99 ?_
  have hFc := va_free (wc := tk_w0 o0 q ca aP aH aT aA aG aK aZ aS n) hD hS hA [0, 1, 2, 3, 4, 5, 6, 7, 8] rfl
  refine va_calli (va_runV (As := [.int (xs (i + 1)), .int (xs (i + 2)), .int (xs (i + 3))]) (rest := []) ⟨hx, hb, hml, hown, hts⟩ (c0_add l dC dI o0 q ca aP aH aT aA aG aK aZ aS n _ pa he hT wk hW hG hZ.2.1 (xs (i + 1)) (xs (i + 2)) (xs (i + 3))) (cwV 3 hts gL_law_X0_add rfl rfl rfl (by decide +kernel) ⟨Nat.le_of_ble_eq_true rfl, Nat.le_of_ble_eq_true rfl⟩) (tk_preW hK0 hP0 (hD.sub (ws' := tk_w0 o0 q ca aP aH aT aA aG aK aZ aS n) [0, 1, 2, 3, 4, 5, 6, 7, 8] (by decide) rfl) rfl rfl) rfl rfl hl.1 rfl (lv_room (Nat.le_of_ble_eq_true rfl)) dL_law_100 ⟨Nat.le_of_ble_eq_true rfl, Nat.le_of_ble_eq_true rfl⟩) hS (fun q9 _ h9 => hFc q9 h9) hFc (fun r0 u0 t0 Hp2 locs ht0 hvm0 hr0 hB0 hz0 hk0 hS => ?_)
  obtain ⟨hP9, hK9, hD9⟩ := hB0
  rw [ht0] at hP9
  obtain ⟨hP2, hD2⟩ := va_join (wr := tk_w1 o1 q1 cb aP aH aT aG aL aA aF aS n) (w1 := u0) hP hD [0, 1, 2, 3, 4, 5, 6, 7, 8] [9, 10, 11, 12, 13, 14, 15, 16, 17] rfl rfl (by decide) (by decide) hk0 hFc hP9 hD9
  have hP1 : va_P (dC, dI) vwCl (tk_w1 o1 q1 cb aP aH aT aG aL aA aF aS n) Hp2 := hP2.sub [0, 1, 2, 3, 4, 5, 6, 7, 8] rfl
  refine lv_aload_n hx hb dL_law_103 rfl (lv_at hl 1 rfl) ?_
  refine lv_aload_n hx hb dL_law_104 rfl (lv_at hl 3 rfl) ?_
  refine lv_iload_n hx hb dL_law_105 rfl (lv_at hl 0 rfl) ?_
  refine lv_iconst (v := nI 1) hx hb dL_law_106 (by decide +kernel) ?_
  refine lv_iadd hx hb dL_law_107 ?_
  refine tk_top (y := nI (i + 1)) (nI_add i 1) ?_
  refine tk_sld hx hb hX hbl hbA hS (i + 1) (by omega) (by omega) dL_law_108 ?_
  refine lv_aload_n hx hb dL_law_109 rfl (lv_at hl 3 rfl) ?_
  refine lv_iload_n hx hb dL_law_110 rfl (lv_at hl 0 rfl) ?_
  refine lv_iconst (v := nI 2) hx hb dL_law_111 (by decide +kernel) ?_
  refine lv_iadd hx hb dL_law_112 ?_
  refine tk_top (y := nI (i + 2)) (nI_add i 2) ?_
  refine tk_sld hx hb hX hbl hbA hS (i + 2) (by omega) (by omega) dL_law_113 ?_
  refine lv_aload_n hx hb dL_law_114 rfl (lv_at hl 3 rfl) ?_
  refine lv_iload_n hx hb dL_law_115 rfl (lv_at hl 0 rfl) ?_
  refine lv_iconst (v := nI 3) hx hb dL_law_116 (by decide +kernel) ?_
  refine lv_iadd hx hb dL_law_117 ?_
  refine tk_top (y := nI (i + 3)) (nI_add i 3) ?_
  refine tk_sld hx hb hX hbl hbA hS (i + 3) (by omega) (by omega) dL_law_118 ?_
  have hFc1 := va_free (wc := tk_w1 o1 q1 cb aP aH aT aG aL aA aF aS n) hD2 hS hA [0, 1, 2, 3, 4, 5, 6, 7, 8] rfl
  refine va_calli (va_runV (As := [.int (xs (i + 1)), .int (xs (i + 2)), .int (xs (i + 3))]) (rest := [.int r0]) ⟨hx, hb, hml, hown, hts⟩ (c1_add l dC dI o1 q1 cb aP aH aT aG aL aA aF aS n _ pa he hT wk hL0 hG (xs (i + 1)) (xs (i + 2)) (xs (i + 3))) (cwV 3 hts gL_law_X1_add rfl rfl rfl (by decide +kernel) ⟨Nat.le_of_ble_eq_true rfl, Nat.le_of_ble_eq_true rfl⟩) (tk_preW hK1 hP1 (hD2.sub (ws' := tk_w1 o1 q1 cb aP aH aT aG aL aA aF aS n) [0, 1, 2, 3, 4, 5, 6, 7, 8] (by decide) rfl) rfl rfl) rfl rfl hl.1 rfl (lv_room (Nat.le_of_ble_eq_true rfl)) dL_law_119 ⟨Nat.le_of_ble_eq_true rfl, Nat.le_of_ble_eq_true rfl⟩) hS (fun q9 _ h9 => hFc1 q9 h9) hFc1 (fun r1 u1 t1 Hp3 locs ht1 hvm1 hr1 hB1 hz1 hk1 hS => ?_)
  obtain ⟨hP8, hK8, hD8⟩ := hB1
  rw [ht1] at hP8
  obtain ⟨hrr, aP2, aH2, aT2, aA2, aG2, aK2, aZ2, aS2, aL2, aF2, n2, pa2, he2, wk2, hinv2, rfl, rfl⟩ := tk_st_add hinv hr0 hr1
  obtain ⟨hP3, hD3⟩ := va_join (wr := tk_w0 o0 q ca aP2 aH2 aT2 aA2 aG2 aK2 aZ2 aS2 n2) (w1 := tk_w1 o1 q1 cb aP2 aH2 aT2 aG2 aL2 aA2 aF2 aS2 n2) hP2 hD2 [0, 1, 2, 3, 4, 5, 6, 7, 8] [9, 10, 11, 12, 13, 14, 15, 16, 17] rfl rfl (by decide) (by decide) hk1 hFc1 hP8 hD8
  refine lv_icmp_eq (tgt := 322) hx hb dL_law_122 (by decide) (fun hc122 => ?_) (fun hc122 => ?_)
  · refine lv_iinc (k := 0) (v := nI (i + 4)) hx hb dL_law_322 hl rfl (tk_inc4 i) (by decide) rfl (fun ls hl => ?_)
    have hl : lv_has ls 4 [(3, .int (nI (i + 4))), (2, .ref o1), (1, .ref o0), (0, .ref b)] := hl
    refine lv_goto (tgt := 18) hx hb dL_law_325 (by decide) ?_
    exact ih (i + 4) aP2 aH2 aT2 aA2 aG2 aK2 aZ2 aS2 aL2 aF2 n2 pa2 he2 wk2 Hp3 locs ls (by omega) (by omega) hinv2 hP3 hD3 hS hl
  · exact absurd hrr hc122
set_option maxHeartbeats 4000000 in
set_option maxRecDepth 100000 in
theorem tk_law_refuse {p : Program} {e : Env} {s : State} {m : MethodId} {below : List Frame} {meth : Method} {c : Code} (l : Launch) {b L : Nat} {xs : Nat → Int32} (hL : L ≤ 2048) (C0 : lw_At p s m meth c b L xs) (dC : Nat → ClassId) (dI : Nat → Nat → Nat) (o0 : Nat) (q : Nat → Nat) (ca : Nat → ClassId) (o1 : Nat) (q1 : Nat → Nat) (cb : Nat → ClassId) (hK : va_K (dC, dI) vwCl (tk_t0 ca ++ tk_t1 cb) s) (A : Nat → Prop) (hA : ∀ x, s.heap.size ≤ x → A x) (hA2 : ∀ x, A x → s.heap.size ≤ x) (i k : Nat) (ih : ∀ (i : Nat) (aP aH aT aA aG aK aZ aS : Nat → Int32) (aL : Nat → Int64) (aF : Nat → Int32) (n : Nat) (pa he wk : Nat → Nat) (Hp : Heap) (locs : List Loc) (ls : Array Slot), L ≤ i + k → i ≤ 2060 → tk_inv aP aH aT aA aG aK aZ aL aF pa he wk n → va_P (dC, dI) vwCl (tk_w0 o0 q ca aP aH aT aA aG aK aZ aS n ++ tk_w1 o1 q1 cb aP aH aT aG aL aA aF aS n) Hp → va_D A (tk_w0 o0 q ca aP aH aT aA aG aK aZ aS n ++ tk_w1 o1 q1 cb aP aH aT aG aL aA aF aS n) → va_S A s.heap Hp locs → lv_has ls 4 [(3, .int (nI i)), (2, .ref o1), (1, .ref o0), (0, .ref b)] → W p l e room_1 s m #[Value.ref b] below meth c Hp locs 18 7200 (lw_Z below #[Value.ref b] s) (F0 m 18 ls [])) (aP aH aT aA aG aK aZ aS : Nat → Int32) (aL : Nat → Int64) (aF : Nat → Int32) (n : Nat) (pa he wk : Nat → Nat) (Hp : Heap) (locs : List Loc) (ls : Array Slot) (hk : L ≤ i + (k + 1)) (hi : i + 4 ≤ L) (hinv : tk_inv aP aH aT aA aG aK aZ aL aF pa he wk n) (hP : va_P (dC, dI) vwCl (tk_w0 o0 q ca aP aH aT aA aG aK aZ aS n ++ tk_w1 o1 q1 cb aP aH aT aG aL aA aF aS n) Hp) (hD : va_D A (tk_w0 o0 q ca aP aH aT aA aG aK aZ aS n ++ tk_w1 o1 q1 cb aP aH aT aG aL aA aF aS n)) (hS : va_S A s.heap Hp locs) (hl : lv_has ls 4 [(3, .int (nI i)), (2, .ref o1), (1, .ref o0), (0, .ref b)]) : W p l e room_1 s m #[Value.ref b] below meth c Hp locs 18 7200 (lw_Z below #[Value.ref b] s) (F0 m 127 ls []) := by
  obtain ⟨hx, hb, hr, hml, hown, hts0, hX, hbl, hlocks, hgv⟩ := C0
  have hts := fun w h => hts0 w (wsL_law_in w h)
  have hown : s.vm.findClass RL = some m.cls := hown
  have hbA : ¬ A b := fun h => absurd hbl (Nat.not_lt.mpr (hA2 _ h))
  have hK0 := hK.sub (tys' := tk_t0 ca) [0, 1, 2, 3, 4, 5, 6, 7] rfl
  have hK1 := hK.sub (tys' := tk_t1 cb) [8, 9, 10, 11, 12, 13, 14, 15] rfl
  have hinv0 := hinv
  obtain ⟨hT, hW, hL0, hG, hZ, hF⟩ := hinv0
  have hn := hT.1.2
  have hn1 := hT.1.1
  have hP0 : va_P (dC, dI) vwCl (tk_w0 o0 q ca aP aH aT aA aG aK aZ aS n) Hp := hP.sub [0, 1, 2, 3, 4, 5, 6, 7, 8] rfl
  have hP1 : va_P (dC, dI) vwCl (tk_w1 o1 q1 cb aP aH aT aG aL aA aF aS n) Hp := hP.sub [9, 10, 11, 12, 13, 14, 15, 16, 17] rfl
  refine lv_aload_n hx hb dL_law_127 rfl (lv_at hl 2 rfl) ?_
  refine lv_aload_n hx hb dL_law_128 rfl (lv_at hl 3 rfl) ?_
  refine lv_iload_n hx hb dL_law_129 rfl (lv_at hl 0 rfl) ?_
  refine lv_iconst (v := nI 1) hx hb dL_law_130 (by decide +kernel) ?_
  refine lv_iadd hx hb dL_law_131 ?_
  refine tk_top (y := nI (i + 1)) (nI_add i 1) ?_
  refine tk_sld hx hb hX hbl hbA hS (i + 1) (by omega) (by omega) dL_law_132 ?_
  have hFc := va_free (wc := tk_w0 o0 q ca aP aH aT aA aG aK aZ aS n) hD hS hA [0, 1, 2, 3, 4, 5, 6, 7, 8] rfl
  refine va_calli (va_runV (As := [.int (xs (i + 1))]) (rest := []) ⟨hx, hb, hml, hown, hts⟩ (c0_refuse l dC dI o0 q ca aP aH aT aA aG aK aZ aS n _ pa he hT wk hW (xs (i + 1))) (cwV 1 hts gL_law_X0_refuse rfl rfl rfl (by decide +kernel) ⟨Nat.le_of_ble_eq_true rfl, Nat.le_of_ble_eq_true rfl⟩) (tk_preW hK0 hP0 (hD.sub (ws' := tk_w0 o0 q ca aP aH aT aA aG aK aZ aS n) [0, 1, 2, 3, 4, 5, 6, 7, 8] (by decide) rfl) rfl rfl) rfl rfl hl.1 rfl (lv_room (Nat.le_of_ble_eq_true rfl)) dL_law_133 ⟨Nat.le_of_ble_eq_true rfl, Nat.le_of_ble_eq_true rfl⟩) hS (fun q9 _ h9 => hFc q9 h9) hFc (fun r0 u0 t0 Hp2 locs ht0 hvm0 hr0 hB0 hz0 hk0 hS => ?_)
  obtain ⟨hP9, hK9, hD9⟩ := hB0
  rw [ht0] at hP9
  obtain ⟨hP2, hD2⟩ := va_join (wr := tk_w1 o1 q1 cb aP aH aT aG aL aA aF aS n) (w1 := u0) hP hD [0, 1, 2, 3, 4, 5, 6, 7, 8] [9, 10, 11, 12, 13, 14, 15, 16, 17] rfl rfl (by decide) (by decide) hk0 hFc hP9 hD9
  have hP1 : va_P (dC, dI) vwCl (tk_w1 o1 q1 cb aP aH aT aG aL aA aF aS n) Hp2 := hP2.sub [0, 1, 2, 3, 4, 5, 6, 7, 8] rfl
  refine lv_aload_n hx hb dL_law_136 rfl (lv_at hl 1 rfl) ?_
  refine lv_aload_n hx hb dL_law_137 rfl (lv_at hl 3 rfl) ?_
  refine lv_iload_n hx hb dL_law_138 rfl (lv_at hl 0 rfl) ?_
  refine lv_iconst (v := nI 1) hx hb dL_law_139 (by decide +kernel) ?_
  refine lv_iadd hx hb dL_law_140 ?_
  refine tk_top (y := nI (i + 1)) (nI_add i 1) ?_
  refine tk_sld hx hb hX hbl hbA hS (i + 1) (by omega) (by omega) dL_law_141 ?_
  have hFc1 := va_free (wc := tk_w1 o1 q1 cb aP aH aT aG aL aA aF aS n) hD2 hS hA [0, 1, 2, 3, 4, 5, 6, 7, 8] rfl
  refine va_calli (va_runV (As := [.int (xs (i + 1))]) (rest := [.int r0]) ⟨hx, hb, hml, hown, hts⟩ (c1_refuse l dC dI o1 q1 cb aP aH aT aG aL aA aF aS n _ pa he hT aZ hZ wk hL0 (xs (i + 1))) (cwV 1 hts gL_law_X1_refuse rfl rfl rfl (by decide +kernel) ⟨Nat.le_of_ble_eq_true rfl, Nat.le_of_ble_eq_true rfl⟩) (tk_preW hK1 hP1 (hD2.sub (ws' := tk_w1 o1 q1 cb aP aH aT aG aL aA aF aS n) [0, 1, 2, 3, 4, 5, 6, 7, 8] (by decide) rfl) rfl rfl) rfl rfl hl.1 rfl (lv_room (Nat.le_of_ble_eq_true rfl)) dL_law_142 ⟨Nat.le_of_ble_eq_true rfl, Nat.le_of_ble_eq_true rfl⟩) hS (fun q9 _ h9 => hFc1 q9 h9) hFc1 (fun r1 u1 t1 Hp3 locs ht1 hvm1 hr1 hB1 hz1 hk1 hS => ?_)
  obtain ⟨hP8, hK8, hD8⟩ := hB1
  rw [ht1] at hP8
  obtain ⟨hrr, aP2, aH2, aT2, aA2, aG2, aK2, aZ2, aS2, aL2, aF2, n2, pa2, he2, wk2, hinv2, rfl, rfl⟩ := tk_st_rf hinv hr0 hr1
  obtain ⟨hP3, hD3⟩ := va_join (wr := tk_w0 o0 q ca aP2 aH2 aT2 aA2 aG2 aK2 aZ2 aS2 n2) (w1 := tk_w1 o1 q1 cb aP2 aH2 aT2 aG2 aL2 aA2 aF2 aS2 n2) hP2 hD2 [0, 1, 2, 3, 4, 5, 6, 7, 8] [9, 10, 11, 12, 13, 14, 15, 16, 17] rfl rfl (by decide) (by decide) hk1 hFc1 hP8 hD8
  refine lv_icmp_eq (tgt := 322) hx hb dL_law_145 (by decide) (fun hc145 => ?_) (fun hc145 => ?_)
  · refine lv_iinc (k := 0) (v := nI (i + 4)) hx hb dL_law_322 hl rfl (tk_inc4 i) (by decide) rfl (fun ls hl => ?_)
    have hl : lv_has ls 4 [(3, .int (nI (i + 4))), (2, .ref o1), (1, .ref o0), (0, .ref b)] := hl
    refine lv_goto (tgt := 18) hx hb dL_law_325 (by decide) ?_
    exact ih (i + 4) aP2 aH2 aT2 aA2 aG2 aK2 aZ2 aS2 aL2 aF2 n2 pa2 he2 wk2 Hp3 locs ls (by omega) (by omega) hinv2 hP3 hD3 hS hl
  · exact absurd hrr hc145
set_option maxHeartbeats 4000000 in
set_option maxRecDepth 100000 in
theorem tk_law_best {p : Program} {e : Env} {s : State} {m : MethodId} {below : List Frame} {meth : Method} {c : Code} (l : Launch) {b L : Nat} {xs : Nat → Int32} (hL : L ≤ 2048) (C0 : lw_At p s m meth c b L xs) (dC : Nat → ClassId) (dI : Nat → Nat → Nat) (o0 : Nat) (q : Nat → Nat) (ca : Nat → ClassId) (o1 : Nat) (q1 : Nat → Nat) (cb : Nat → ClassId) (hK : va_K (dC, dI) vwCl (tk_t0 ca ++ tk_t1 cb) s) (A : Nat → Prop) (hA : ∀ x, s.heap.size ≤ x → A x) (hA2 : ∀ x, A x → s.heap.size ≤ x) (i k : Nat) (ih : ∀ (i : Nat) (aP aH aT aA aG aK aZ aS : Nat → Int32) (aL : Nat → Int64) (aF : Nat → Int32) (n : Nat) (pa he wk : Nat → Nat) (Hp : Heap) (locs : List Loc) (ls : Array Slot), L ≤ i + k → i ≤ 2060 → tk_inv aP aH aT aA aG aK aZ aL aF pa he wk n → va_P (dC, dI) vwCl (tk_w0 o0 q ca aP aH aT aA aG aK aZ aS n ++ tk_w1 o1 q1 cb aP aH aT aG aL aA aF aS n) Hp → va_D A (tk_w0 o0 q ca aP aH aT aA aG aK aZ aS n ++ tk_w1 o1 q1 cb aP aH aT aG aL aA aF aS n) → va_S A s.heap Hp locs → lv_has ls 4 [(3, .int (nI i)), (2, .ref o1), (1, .ref o0), (0, .ref b)] → W p l e room_1 s m #[Value.ref b] below meth c Hp locs 18 7200 (lw_Z below #[Value.ref b] s) (F0 m 18 ls [])) (aP aH aT aA aG aK aZ aS : Nat → Int32) (aL : Nat → Int64) (aF : Nat → Int32) (n : Nat) (pa he wk : Nat → Nat) (Hp : Heap) (locs : List Loc) (ls : Array Slot) (hk : L ≤ i + (k + 1)) (hi : i + 4 ≤ L) (hinv : tk_inv aP aH aT aA aG aK aZ aL aF pa he wk n) (hP : va_P (dC, dI) vwCl (tk_w0 o0 q ca aP aH aT aA aG aK aZ aS n ++ tk_w1 o1 q1 cb aP aH aT aG aL aA aF aS n) Hp) (hD : va_D A (tk_w0 o0 q ca aP aH aT aA aG aK aZ aS n ++ tk_w1 o1 q1 cb aP aH aT aG aL aA aF aS n)) (hS : va_S A s.heap Hp locs) (hl : lv_has ls 4 [(3, .int (nI i)), (2, .ref o1), (1, .ref o0), (0, .ref b)]) : W p l e room_1 s m #[Value.ref b] below meth c Hp locs 18 7200 (lw_Z below #[Value.ref b] s) (F0 m 150 ls []) := by
  obtain ⟨hx, hb, hr, hml, hown, hts0, hX, hbl, hlocks, hgv⟩ := C0
  have hts := fun w h => hts0 w (wsL_law_in w h)
  have hown : s.vm.findClass RL = some m.cls := hown
  have hbA : ¬ A b := fun h => absurd hbl (Nat.not_lt.mpr (hA2 _ h))
  have hK0 := hK.sub (tys' := tk_t0 ca) [0, 1, 2, 3, 4, 5, 6, 7] rfl
  have hK1 := hK.sub (tys' := tk_t1 cb) [8, 9, 10, 11, 12, 13, 14, 15] rfl
  have hinv0 := hinv
  obtain ⟨hT, hW, hL0, hG, hZ, hF⟩ := hinv0
  have hn := hT.1.2
  have hn1 := hT.1.1
  have hP0 : va_P (dC, dI) vwCl (tk_w0 o0 q ca aP aH aT aA aG aK aZ aS n) Hp := hP.sub [0, 1, 2, 3, 4, 5, 6, 7, 8] rfl
  have hP1 : va_P (dC, dI) vwCl (tk_w1 o1 q1 cb aP aH aT aG aL aA aF aS n) Hp := hP.sub [9, 10, 11, 12, 13, 14, 15, 16, 17] rfl
  refine lv_aload_n hx hb dL_law_150 rfl (lv_at hl 2 rfl) ?_
  refine vp_callSi (W.runV (As := []) (rest := []) ⟨hx, hb, hml, hown, hts⟩ (c0_best l dC dI o0 q ca aP aH aT aA aG aK aZ aS n wk hW hn hn1) (cwV 0 hts gL_law_X0_best rfl rfl rfl (by decide +kernel) ⟨Nat.le_of_ble_eq_true rfl, Nat.le_of_ble_eq_true rfl⟩) (tk_pre hK0 hP0 rfl rfl) rfl rfl hl.1 rfl (lv_room (Nat.le_of_ble_eq_true rfl)) dL_law_151 ⟨Nat.le_of_ble_eq_true rfl, Nat.le_of_ble_eq_true rfl⟩) (fun r0 hr0 => ?_)
  refine lv_aload_n hx hb dL_law_154 rfl (lv_at hl 1 rfl) ?_
  refine vp_callSi (W.runV (As := []) (rest := [.int r0]) ⟨hx, hb, hml, hown, hts⟩ (c1_best l dC dI o1 q1 cb aP aH aT aG aL aA aF aS n pa he hT aZ hZ wk hL0) (cwV 0 hts gL_law_X1_best rfl rfl rfl (by decide +kernel) ⟨Nat.le_of_ble_eq_true rfl, Nat.le_of_ble_eq_true rfl⟩) (tk_pre hK1 hP1 rfl rfl) rfl rfl hl.1 rfl (lv_room (Nat.le_of_ble_eq_true rfl)) dL_law_155 ⟨Nat.le_of_ble_eq_true rfl, Nat.le_of_ble_eq_true rfl⟩) (fun r1 hr1 => ?_)
  refine lv_icmp_eq (tgt := 322) hx hb dL_law_158 (by decide) (fun hc158 => ?_) (fun hc158 => ?_)
  · refine lv_iinc (k := 0) (v := nI (i + 4)) hx hb dL_law_322 hl rfl (tk_inc4 i) (by decide) rfl (fun ls hl => ?_)
    have hl : lv_has ls 4 [(3, .int (nI (i + 4))), (2, .ref o1), (1, .ref o0), (0, .ref b)] := hl
    refine lv_goto (tgt := 18) hx hb dL_law_325 (by decide) ?_
    exact ih (i + 4) aP aH aT aA aG aK aZ aS aL aF n pa he wk Hp locs ls (by omega) (by omega) hinv hP hD hS hl
  · exact absurd (hr0.trans hr1.symm) hc158
set_option maxHeartbeats 4000000 in
set_option maxRecDepth 100000 in
theorem tk_law_fork {p : Program} {e : Env} {s : State} {m : MethodId} {below : List Frame} {meth : Method} {c : Code} (l : Launch) {b L : Nat} {xs : Nat → Int32} (hL : L ≤ 2048) (C0 : lw_At p s m meth c b L xs) (dC : Nat → ClassId) (dI : Nat → Nat → Nat) (o0 : Nat) (q : Nat → Nat) (ca : Nat → ClassId) (o1 : Nat) (q1 : Nat → Nat) (cb : Nat → ClassId) (hK : va_K (dC, dI) vwCl (tk_t0 ca ++ tk_t1 cb) s) (A : Nat → Prop) (hA : ∀ x, s.heap.size ≤ x → A x) (hA2 : ∀ x, A x → s.heap.size ≤ x) (i k : Nat) (ih : ∀ (i : Nat) (aP aH aT aA aG aK aZ aS : Nat → Int32) (aL : Nat → Int64) (aF : Nat → Int32) (n : Nat) (pa he wk : Nat → Nat) (Hp : Heap) (locs : List Loc) (ls : Array Slot), L ≤ i + k → i ≤ 2060 → tk_inv aP aH aT aA aG aK aZ aL aF pa he wk n → va_P (dC, dI) vwCl (tk_w0 o0 q ca aP aH aT aA aG aK aZ aS n ++ tk_w1 o1 q1 cb aP aH aT aG aL aA aF aS n) Hp → va_D A (tk_w0 o0 q ca aP aH aT aA aG aK aZ aS n ++ tk_w1 o1 q1 cb aP aH aT aG aL aA aF aS n) → va_S A s.heap Hp locs → lv_has ls 4 [(3, .int (nI i)), (2, .ref o1), (1, .ref o0), (0, .ref b)] → W p l e room_1 s m #[Value.ref b] below meth c Hp locs 18 7200 (lw_Z below #[Value.ref b] s) (F0 m 18 ls [])) (aP aH aT aA aG aK aZ aS : Nat → Int32) (aL : Nat → Int64) (aF : Nat → Int32) (n : Nat) (pa he wk : Nat → Nat) (Hp : Heap) (locs : List Loc) (ls : Array Slot) (hk : L ≤ i + (k + 1)) (hi : i + 4 ≤ L) (hinv : tk_inv aP aH aT aA aG aK aZ aL aF pa he wk n) (hP : va_P (dC, dI) vwCl (tk_w0 o0 q ca aP aH aT aA aG aK aZ aS n ++ tk_w1 o1 q1 cb aP aH aT aG aL aA aF aS n) Hp) (hD : va_D A (tk_w0 o0 q ca aP aH aT aA aG aK aZ aS n ++ tk_w1 o1 q1 cb aP aH aT aG aL aA aF aS n)) (hS : va_S A s.heap Hp locs) (hl : lv_has ls 4 [(3, .int (nI i)), (2, .ref o1), (1, .ref o0), (0, .ref b)]) : W p l e room_1 s m #[Value.ref b] below meth c Hp locs 18 7200 (lw_Z below #[Value.ref b] s) (F0 m 163 ls []) := by
  obtain ⟨hx, hb, hr, hml, hown, hts0, hX, hbl, hlocks, hgv⟩ := C0
  have hts := fun w h => hts0 w (wsL_law_in w h)
  have hown : s.vm.findClass RL = some m.cls := hown
  have hbA : ¬ A b := fun h => absurd hbl (Nat.not_lt.mpr (hA2 _ h))
  have hK0 := hK.sub (tys' := tk_t0 ca) [0, 1, 2, 3, 4, 5, 6, 7] rfl
  have hK1 := hK.sub (tys' := tk_t1 cb) [8, 9, 10, 11, 12, 13, 14, 15] rfl
  have hinv0 := hinv
  obtain ⟨hT, hW, hL0, hG, hZ, hF⟩ := hinv0
  have hn := hT.1.2
  have hn1 := hT.1.1
  have hP0 : va_P (dC, dI) vwCl (tk_w0 o0 q ca aP aH aT aA aG aK aZ aS n) Hp := hP.sub [0, 1, 2, 3, 4, 5, 6, 7, 8] rfl
  have hP1 : va_P (dC, dI) vwCl (tk_w1 o1 q1 cb aP aH aT aG aL aA aF aS n) Hp := hP.sub [9, 10, 11, 12, 13, 14, 15, 16, 17] rfl
  refine lv_aload_n hx hb dL_law_163 rfl (lv_at hl 2 rfl) ?_
  refine lv_aload_n hx hb dL_law_164 rfl (lv_at hl 3 rfl) ?_
  refine lv_iload_n hx hb dL_law_165 rfl (lv_at hl 0 rfl) ?_
  refine lv_iconst (v := nI 1) hx hb dL_law_166 (by decide +kernel) ?_
  refine lv_iadd hx hb dL_law_167 ?_
  refine tk_top (y := nI (i + 1)) (nI_add i 1) ?_
  refine tk_sld hx hb hX hbl hbA hS (i + 1) (by omega) (by omega) dL_law_168 ?_
  refine lv_aload_n hx hb dL_law_169 rfl (lv_at hl 3 rfl) ?_
  refine lv_iload_n hx hb dL_law_170 rfl (lv_at hl 0 rfl) ?_
  refine lv_iconst (v := nI 2) hx hb dL_law_171 (by decide +kernel) ?_
  refine lv_iadd hx hb dL_law_172 ?_
  refine tk_top (y := nI (i + 2)) (nI_add i 2) ?_
  refine tk_sld hx hb hX hbl hbA hS (i + 2) (by omega) (by omega) dL_law_173 ?_
  refine vp_callSi (W.runV (As := [.int (xs (i + 1)), .int (xs (i + 2))]) (rest := []) ⟨hx, hb, hml, hown, hts⟩ (c0_fork l dC dI o0 q ca aP aH aT aA aG aK aZ aS n pa he hT (xs (i + 1)) (xs (i + 2))) (cwV 2 hts gL_law_X0_fork rfl rfl rfl (by decide +kernel) ⟨Nat.le_of_ble_eq_true rfl, Nat.le_of_ble_eq_true rfl⟩) (tk_pre hK0 hP0 rfl rfl) rfl rfl hl.1 rfl (lv_room (Nat.le_of_ble_eq_true rfl)) dL_law_174 ⟨Nat.le_of_ble_eq_true rfl, Nat.le_of_ble_eq_true rfl⟩) (fun r0 hr0 => ?_)
  refine lv_aload_n hx hb dL_law_177 rfl (lv_at hl 1 rfl) ?_
  refine lv_aload_n hx hb dL_law_178 rfl (lv_at hl 3 rfl) ?_
  refine lv_iload_n hx hb dL_law_179 rfl (lv_at hl 0 rfl) ?_
  refine lv_iconst (v := nI 1) hx hb dL_law_180 (by decide +kernel) ?_
  refine lv_iadd hx hb dL_law_181 ?_
  refine tk_top (y := nI (i + 1)) (nI_add i 1) ?_
  refine tk_sld hx hb hX hbl hbA hS (i + 1) (by omega) (by omega) dL_law_182 ?_
  refine lv_aload_n hx hb dL_law_183 rfl (lv_at hl 3 rfl) ?_
  refine lv_iload_n hx hb dL_law_184 rfl (lv_at hl 0 rfl) ?_
  refine lv_iconst (v := nI 2) hx hb dL_law_185 (by decide +kernel) ?_
  refine lv_iadd hx hb dL_law_186 ?_
  refine tk_top (y := nI (i + 2)) (nI_add i 2) ?_
  refine tk_sld hx hb hX hbl hbA hS (i + 2) (by omega) (by omega) dL_law_187 ?_
  refine vp_callSi (W.runV (As := [.int (xs (i + 1)), .int (xs (i + 2))]) (rest := [.int r0]) ⟨hx, hb, hml, hown, hts⟩ (c1_fork l dC dI o1 q1 cb aP aH aT aG aL aA aF aS n pa he hT (xs (i + 1)) (xs (i + 2))) (cwV 2 hts gL_law_X1_fork rfl rfl rfl (by decide +kernel) ⟨Nat.le_of_ble_eq_true rfl, Nat.le_of_ble_eq_true rfl⟩) (tk_pre hK1 hP1 rfl rfl) rfl rfl hl.1 rfl (lv_room (Nat.le_of_ble_eq_true rfl)) dL_law_188 ⟨Nat.le_of_ble_eq_true rfl, Nat.le_of_ble_eq_true rfl⟩) (fun r1 hr1 => ?_)
  refine lv_icmp_eq (tgt := 322) hx hb dL_law_191 (by decide) (fun hc191 => ?_) (fun hc191 => ?_)
  · refine lv_iinc (k := 0) (v := nI (i + 4)) hx hb dL_law_322 hl rfl (tk_inc4 i) (by decide) rfl (fun ls hl => ?_)
    have hl : lv_has ls 4 [(3, .int (nI (i + 4))), (2, .ref o1), (1, .ref o0), (0, .ref b)] := hl
    refine lv_goto (tgt := 18) hx hb dL_law_325 (by decide) ?_
    exact ih (i + 4) aP aH aT aA aG aK aZ aS aL aF n pa he wk Hp locs ls (by omega) (by omega) hinv hP hD hS hl
  · exact absurd (hr0.trans hr1.symm) hc191
