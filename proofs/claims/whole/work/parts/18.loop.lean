theorem tk_lsub {L i : Nat} (hL : L < 2 ^ 30) (hi : i < 2 ^ 30) : nI L - nI 4 < nI i ↔ L < i + 4 := by
  rw [Int32.lt_iff_toInt_lt, pk_sub_toInt hL (by decide), nI_toInt (by omega)]; omega
set_option maxHeartbeats 4000000 in
set_option maxRecDepth 100000 in
theorem tk_law_loop {p : Program} {e : Env} {s : State} {m : MethodId} {below : List Frame} {meth : Method} {c : Code} (l : Launch) {b L : Nat} {xs : Nat → Int32} (hL : L ≤ 2048) (C0 : lw_At p s m meth c b L xs) (dC : Nat → ClassId) (dI : Nat → Nat → Nat) (o0 : Nat) (q : Nat → Nat) (ca : Nat → ClassId) (o1 : Nat) (q1 : Nat → Nat) (cb : Nat → ClassId) (hK : va_K (dC, dI) vwCl (tk_t0 ca ++ tk_t1 cb) s) (A : Nat → Prop) (hA : ∀ x, s.heap.size ≤ x → A x) (hA2 : ∀ x, A x → s.heap.size ≤ x) : ∀ (k i : Nat) (aP aH aT aA aG aK aZ aS : Nat → Int32) (aL : Nat → Int64) (aF : Nat → Int32) (n : Nat) (pa he wk : Nat → Nat) (Hp : Heap) (locs : List Loc) (ls : Array Slot), L ≤ i + k → i ≤ 2060 → tk_inv aP aH aT aA aG aK aZ aL aF pa he wk n → va_P (dC, dI) vwCl (tk_w0 o0 q ca aP aH aT aA aG aK aZ aS n ++ tk_w1 o1 q1 cb aP aH aT aG aL aA aF aS n) Hp → va_D A (tk_w0 o0 q ca aP aH aT aA aG aK aZ aS n ++ tk_w1 o1 q1 cb aP aH aT aG aL aA aF aS n) → va_S A s.heap Hp locs → lv_has ls 4 [(3, .int (nI i)), (2, .ref o1), (1, .ref o0), (0, .ref b)] → W p l e room_1 s m #[Value.ref b] below meth c Hp locs 18 7200 (lw_Z below #[Value.ref b] s) (F0 m 18 ls []) := by
  have C1 := C0
  obtain ⟨hx, hb, hr, hml, hown, hts0, hX, hbl, hlocks, hgv⟩ := C0
  have hts := fun w h => hts0 w (wsL_law_in w h)
  have hown : s.vm.findClass RL = some m.cls := hown
  have hbA : ¬ A b := fun h => absurd hbl (Nat.not_lt.mpr (hA2 _ h))
  have hK0 := hK.sub (tys' := tk_t0 ca) [0, 1, 2, 3, 4, 5, 6, 7] rfl
  have hK1 := hK.sub (tys' := tk_t1 cb) [8, 9, 10, 11, 12, 13, 14, 15] rfl
  intro k
  induction k with
  | zero =>
    intro i aP aH aT aA aG aK aZ aS aL aF n pa he wk Hp locs ls hk hi hinv hP hD hS hl
    refine lv_iload_n hx hb dL_law_18 rfl (lv_at hl 0 rfl) ?_
    refine lv_aload_n hx hb dL_law_19 rfl (lv_at hl 3 rfl) ?_
    refine va_slen hx hb hX hbl hbA hS dL_law_20 ?_
    refine tk_top (y := nI L) rfl ?_
    refine lv_iconst (v := nI 4) hx hb dL_law_21 (by decide +kernel) ?_
    refine lv_isub hx hb dL_law_22 ?_
    refine lv_icmp_gt (tgt := 328) hx hb dL_law_23 (by decide) (fun hc23 => ?_) (fun hc23 => ?_)
    · refine lv_iconst (v := 1) hx hb dL_law_328 (by decide +kernel) ?_
      refine va_forget (fun x9 h9 => hA2 _ (hS.2.2 x9 h9)) ?_
      exact lw_ret hx hb hr hlocks dL_law_329
    · exact absurd ((tk_lsub (by omega) (by omega)).mpr (by omega)) hc23
  | succ k ih =>
    intro i aP aH aT aA aG aK aZ aS aL aF n pa he wk Hp locs ls hk hi hinv hP hD hS hl
    refine lv_iload_n hx hb dL_law_18 rfl (lv_at hl 0 rfl) ?_
    refine lv_aload_n hx hb dL_law_19 rfl (lv_at hl 3 rfl) ?_
    refine va_slen hx hb hX hbl hbA hS dL_law_20 ?_
    refine tk_top (y := nI L) rfl ?_
    refine lv_iconst (v := nI 4) hx hb dL_law_21 (by decide +kernel) ?_
    refine lv_isub hx hb dL_law_22 ?_
    refine lv_icmp_gt (tgt := 328) hx hb dL_law_23 (by decide) (fun hc23 => ?_) (fun hc23 => ?_)
    · refine lv_iconst (v := 1) hx hb dL_law_328 (by decide +kernel) ?_
      refine va_forget (fun x9 h9 => hA2 _ (hS.2.2 x9 h9)) ?_
      exact lw_ret hx hb hr hlocks dL_law_329
    · have e23 : i + 4 ≤ L := Nat.le_of_not_lt (fun z => hc23 ((tk_lsub (by omega) (by omega)).mpr z))
      obtain ⟨w, hw, ew⟩ := pk_andE (xs i) (m := nI 15) 4 (by decide +kernel)
      refine lv_aload_n hx hb dL_law_26 rfl (lv_at hl 3 rfl) ?_
      refine lv_iload_n hx hb dL_law_27 rfl (lv_at hl 0 rfl) ?_
      refine tk_sld hx hb hX hbl hbA hS (i) (by omega) (by omega) dL_law_28 ?_
      refine lv_bipush (v := nI 15) hx hb dL_law_29 (by decide +kernel) ?_
      refine lv_iand hx hb dL_law_31 ?_
      refine tk_top (y := nI w) ew ?_
      rcases (show w = 0 ∨ w = 1 ∨ w = 2 ∨ w = 3 ∨ w = 4 ∨ w = 5 ∨ w = 6 ∨ w = 7 ∨ w = 8 ∨ 9 ≤ w by omega) with rfl | rfl | rfl | rfl | rfl | rfl | rfl | rfl | rfl | h9
      · refine lv_tableIn (tgt := 84) (off := 52) hx hb dL_law_32 (by decide +kernel) (by decide +kernel) (by decide +kernel) (by decide) ?_
        exact tk_law_add l hL C1 dC dI o0 q ca o1 q1 cb hK A hA hA2 i k ih aP aH aT aA aG aK aZ aS aL aF n pa he wk Hp locs ls hk e23 hinv hP hD hS hl
      · refine lv_tableIn (tgt := 127) (off := 95) hx hb dL_law_32 (by decide +kernel) (by decide +kernel) (by decide +kernel) (by decide) ?_
        exact tk_law_refuse l hL C1 dC dI o0 q ca o1 q1 cb hK A hA hA2 i k ih aP aH aT aA aG aK aZ aS aL aF n pa he wk Hp locs ls hk e23 hinv hP hD hS hl
      · refine lv_tableIn (tgt := 150) (off := 118) hx hb dL_law_32 (by decide +kernel) (by decide +kernel) (by decide +kernel) (by decide) ?_
        exact tk_law_best l hL C1 dC dI o0 q ca o1 q1 cb hK A hA hA2 i k ih aP aH aT aA aG aK aZ aS aL aF n pa he wk Hp locs ls hk e23 hinv hP hD hS hl
      · refine lv_tableIn (tgt := 163) (off := 131) hx hb dL_law_32 (by decide +kernel) (by decide +kernel) (by decide +kernel) (by decide) ?_
        exact tk_law_fork l hL C1 dC dI o0 q ca o1 q1 cb hK A hA hA2 i k ih aP aH aT aA aG aK aZ aS aL aF n pa he wk Hp locs ls hk e23 hinv hP hD hS hl
      · refine lv_tableIn (tgt := 196) (off := 164) hx hb dL_law_32 (by decide +kernel) (by decide +kernel) (by decide +kernel) (by decide) ?_
        exact tk_law_due l hL C1 dC dI o0 q ca o1 q1 cb hK A hA hA2 i k ih aP aH aT aA aG aK aZ aS aL aF n pa he wk Hp locs ls hk e23 hinv hP hD hS hl
      · refine lv_tableIn (tgt := 219) (off := 187) hx hb dL_law_32 (by decide +kernel) (by decide +kernel) (by decide +kernel) (by decide) ?_
        exact tk_law_median l hL C1 dC dI o0 q ca o1 q1 cb hK A hA hA2 i k ih aP aH aT aA aG aK aZ aS aL aF n pa he wk Hp locs ls hk e23 hinv hP hD hS hl
      · refine lv_tableIn (tgt := 242) (off := 210) hx hb dL_law_32 (by decide +kernel) (by decide +kernel) (by decide +kernel) (by decide) ?_
        exact tk_law_ancestor l hL C1 dC dI o0 q ca o1 q1 cb hK A hA hA2 i k ih aP aH aT aA aG aK aZ aS aL aF n pa he wk Hp locs ls hk e23 hinv hP hD hS hl
      · refine lv_tableIn (tgt := 275) (off := 243) hx hb dL_law_32 (by decide +kernel) (by decide +kernel) (by decide +kernel) (by decide) ?_
        exact tk_law_look l hL C1 dC dI o0 q ca o1 q1 cb hK A hA hA2 i k ih aP aH aT aA aG aK aZ aS aL aF n pa he wk Hp locs ls hk e23 hinv hP hD hS hl
      · refine lv_tableIn (tgt := 309) (off := 277) hx hb dL_law_32 (by decide +kernel) (by decide +kernel) (by decide +kernel) (by decide) ?_
        exact tk_law_blocks l hL C1 dC dI o0 q ca o1 q1 cb hK A hA hA2 i k ih aP aH aT aA aG aK aZ aS aL aF n pa he wk Hp locs ls hk e23 hinv hP hD hS hl
      · refine lv_tableOut (tgt := 322) hx hb dL_law_32 (Or.inr (by rw [nI_toInt (by omega)]; omega)) (by decide) ?_
        refine lv_iinc (k := 0) (v := nI (i + 4)) hx hb dL_law_322 hl rfl (tk_inc4 i) (by decide) rfl (fun ls hl => ?_)
        have hl : lv_has ls 4 [(3, .int (nI (i + 4))), (2, .ref o1), (1, .ref o0), (0, .ref b)] := hl
        refine lv_goto (tgt := 18) hx hb dL_law_325 (by decide) ?_
        exact ih (i + 4) aP aH aT aA aG aK aZ aS aL aF n pa he wk Hp locs ls (by omega) (by omega) hinv hP hD hS hl
