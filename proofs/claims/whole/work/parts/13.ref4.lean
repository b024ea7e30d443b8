set_option maxHeartbeats 4000000 in
set_option maxRecDepth 100000 in
theorem c1_refuse (l : Launch) (dC : Nat → ClassId) (dI : Nat → Nat → Nat) (o : Nat) (q : Nat → Nat) (ca : Nat → ClassId) (aP aH aT aG : Nat → Int32) (aL : Nat → Int64) (aA aF aS : Nat → Int32) (n : Nat) (sz : Nat) (pa he : Nat → Nat) (hT : tk_I aP aH pa he n) (aZ : Nat → Int32) (hZ : tk_wI pa aF aZ n) (wk : Nat → Nat) (hL : tk_WL aL wk n) (b : Int32) : Met l yX1_refuse wsX1_refuse ({ frames := 2, cells := 0, slots := 0, locals := 45 }) (tk_Wp (dC, dI) (tk_w1 o q ca aP aH aT aG aL aA aF aS n) (tk_t1 ca) sz [.ref o, .int b]) (va_Qi (fun (r : Int32) (u : va_W) => ((tk_ex n b = 0 ∨ b = 0) ∧ r = -1 ∧ u = tk_w1 o q ca aP aH aT aG aL aA aF aS n) ∨ (∃ j, 0 < j ∧ j < n ∧ b = nI j ∧ r = nI (tk_best (tk_rf pa (n - (j + 1)) (j + 1) (upd aZ j 1)) aA wk n) ∧ u = tk_w1 o q ca aP aH aT aG aL aA (upd aF j 1) aS n)) (tk_E (dC, dI) (tk_t1 ca) (va_A (tk_w1 o q ca aP aH aT aG aL aA aF aS n) sz)) (va_A (tk_w1 o q ca aP aH aT aG aL aA aF aS n) sz)) 0 0 (va_A (tk_w1 o q ca aP aH aT aG aL aA aF aS n) sz) := by
  refine Met.ofW (cc := cX1_refuse) (maxL := 2) (ret := (some .int)) (by decide) rfl ?_
  intro p e s m args below meth c s₁ B hml hv
  obtain ⟨rfl, hsz, hP, hK, hD0⟩ := hv
  have hx := B.exec
  have hb := B.bytes
  have hr := B.returns
  have hts := atoms_spec (ws := wsX1_refuse) B.pre
  have hown : s.vm.findClass RX1 = some m.cls := findClass_of_methodNamed B.named
  have hlocks := B.notSynchronized
  have hin0 : ∀ w ∈ u_ws RX1 TX1 9, w ∈ wsX1_refuse := by decide +kernel
  have fl29 := hts (.fieldLink RX1 29 "WorkTreeModel" "refused" "[Z") (by decide +kernel)
  subst hsz
  have hD := hD0.self (sz := s.heap.size)
  generalize hAe : va_A (tk_w1 o q ca aP aH aT aG aL aA aF aS n) s.heap.size = A at hD ⊢
  have hA : ∀ q : Nat, s.heap.size ≤ q → A q := fun q h => by rw [← hAe]; exact Or.inr h
  have hS : va_S A s.heap s.heap [] := va_S.rf
  have hl := lv_entry ([.ref o, .int b]) (n := 2) (Nat.le_of_ble_eq_true rfl)
  rw [lg_entry_eq]
  generalize (lg_sl ([.ref o, .int b]) ++ List.replicate (2 - (lg_sl ([.ref o, .int b])).length) Slot.unset).toArray = ls at hl ⊢
  have hl : lv_has ls 2 [(0, .ref o), (1, .int b)] := hl
  refine tk_Q (fun Q hQ => ?_)
  have hn := hT.1.2
  refine lv_aload_n hx hb dX1_refuse_0 rfl (lv_at hl 0 rfl) ?_
  refine lv_iload_n hx hb dX1_refuse_1 rfl (lv_at hl 1 rfl) ?_
  refine vp_callSi (W.runV (As := [.int b]) (rest := []) ⟨hx, hb, hml, hown, hts⟩ (c1_is l dC dI o q ca aP aH aT aG aL aA aF aS n b) (cwV 1 hts gX1_refuse_X1_is rfl rfl rfl (by decide +kernel) ⟨Nat.le_of_ble_eq_true rfl, Nat.le_of_ble_eq_true rfl⟩) (tk_pre hK hP rfl rfl) rfl rfl hl.1 rfl (lv_room (Nat.le_of_ble_eq_true rfl)) dX1_refuse_2 ⟨Nat.le_of_ble_eq_true rfl, Nat.le_of_ble_eq_true rfl⟩) (fun r hr1 => ?_)
  refine tk_top (y := tk_ex n b) hr1 ?_
  refine lv_if_eq (tgt := 12) hx hb dX1_refuse_5 (by decide) (fun hc5 => ?_) (fun hc5 => ?_)
  · refine lv_iconst (v := -1) hx hb dX1_refuse_12 (by decide +kernel) ?_
    subst hQ
    exact W.iret hx hb hr (fun t ht hW => ⟨⟨-1, tk_w1 o q ca aP aH aT aG aL aA aF aS n, rfl, (Or.inl ⟨Or.inl hc5, rfl, rfl⟩), by rw [ht]; exact hP, va_K.moved hW.alike hK, hD⟩, hS.F ht⟩) hS.2.2 dX1_refuse_13
  · obtain ⟨j, hj, rfl⟩ := tk_ex_t hn hc5
    refine lv_iload_n hx hb dX1_refuse_8 rfl (lv_at hl 1 rfl) ?_
    refine lv_if_ne (tgt := 14) hx hb dX1_refuse_9 (by decide) (fun hc9 => ?_) (fun hc9 => ?_)
    · have hj0 : 0 < j := Nat.pos_of_ne_zero (fun z => hc9 ((tk_eq0 (by omega)).mpr z))
      have hZ2 := tk_rf_ok (fun i h1 h2 => (hT.2.2.2.2 i h1 h2).2.1) hZ hj0 hj
      refine lv_aload_n hx hb dX1_refuse_14 rfl (lv_at hl 0 rfl) ?_
      refine va_get (D := (dC, dI)) (ci := 1) (v := .ref (q 6)) (C := RX1) (T := TX1) (N := 9) hx hb hts hin0 hown hK hP 0 rfl rfl 6 (by decide) fl29 (fun _ h9 => h9) rfl dX1_refuse_15 ?_
      refine lv_iload_n hx hb dX1_refuse_18 rfl (lv_at hl 1 rfl) ?_
      refine lv_iconst (v := 1) hx hb dX1_refuse_19 (by decide +kernel) ?_
      refine tk_stz (x' := 1) hx hb hK hP hD hS 7 6 rfl rfl j (by omega) (by decide) rfl dX1_refuse_20 (fun Hp locs hP hD hS => ?_)
      have hP : va_P (dC, dI) vwCl (tk_w1 o q ca aP aH aT aG aL aA (upd aF j 1) aS n) Hp := hP
      have hD : va_D A (tk_w1 o q ca aP aH aT aG aL aA (upd aF j 1) aS n) := hD
      refine lv_aload_n hx hb dX1_refuse_21 rfl (lv_at hl 0 rfl) ?_
      refine vp_callSi (W.runV (As := []) (rest := []) ⟨hx, hb, hml, hown, hts⟩ (c1_best l dC dI o q ca aP aH aT aG aL aA (upd aF j 1) aS n pa he hT _ hZ2 wk hL) (cwV 0 hts gX1_refuse_X1_best rfl rfl rfl (by decide +kernel) ⟨Nat.le_of_ble_eq_true rfl, Nat.le_of_ble_eq_true rfl⟩) (tk_pre hK hP rfl rfl) rfl rfl hl.1 rfl (lv_room (Nat.le_of_ble_eq_true rfl)) dX1_refuse_22 ⟨Nat.le_of_ble_eq_true rfl, Nat.le_of_ble_eq_true rfl⟩) (fun r hr1 => ?_)
      refine tk_top (y := nI (tk_best (tk_rf pa (n - (j + 1)) (j + 1) (upd aZ j 1)) aA wk n)) hr1 ?_
      subst hQ
      exact W.iret hx hb hr (fun t ht hW => ⟨⟨nI (tk_best (tk_rf pa (n - (j + 1)) (j + 1) (upd aZ j 1)) aA wk n), tk_w1 o q ca aP aH aT aG aL aA (upd aF j 1) aS n, rfl, (Or.inr ⟨j, hj0, hj, rfl, rfl, rfl⟩), by rw [ht]; exact hP, va_K.moved hW.alike hK, hD⟩, hS.F ht⟩) hS.2.2 dX1_refuse_25
    · refine lv_iconst (v := -1) hx hb dX1_refuse_12 (by decide +kernel) ?_
      subst hQ
      exact W.iret hx hb hr (fun t ht hW => ⟨⟨-1, tk_w1 o q ca aP aH aT aG aL aA aF aS n, rfl, (Or.inl ⟨Or.inr hc9, rfl, rfl⟩), by rw [ht]; exact hP, va_K.moved hW.alike hK, hD⟩, hS.F ht⟩) hS.2.2 dX1_refuse_13
set_option maxHeartbeats 4000000 in
set_option maxRecDepth 100000 in
theorem c1_add (l : Launch) (dC : Nat → ClassId) (dI : Nat → Nat → Nat) (o : Nat) (q : Nat → Nat) (ca : Nat → ClassId) (aP aH aT aG : Nat → Int32) (aL : Nat → Int64) (aA aF aS : Nat → Int32) (n : Nat) (sz : Nat) (pa he : Nat → Nat) (hT : tk_I aP aH pa he n) (wk : Nat → Nat) (hL : tk_WL aL wk n) (hG : tk_G aG n) (b tm ar : Int32) : Met l yX1_add wsX1_add ({ frames := 3, cells := 0, slots := 0, locals := 68 }) (tk_Wp (dC, dI) (tk_w1 o q ca aP aH aT aG aL aA aF aS n) (tk_t1 ca) sz [.ref o, .int b, .int tm, .int ar]) (va_Qi (fun (r : Int32) (u : va_W) => (tk_ex n b = 0 ∧ r = -1 ∧ u = tk_w1 o q ca aP aH aT aG aL aA aF aS n) ∨ (∃ j, j < n ∧ b = nI j ∧ (((tm ≤ tk_med pa he aT j aS ∨ ¬ 0 ≤ ar) ∧ r = -1 ∧ u = tk_w1 o q ca aP aH aT aG aL aA aF (tk_mS pa he aT j aS) n) ∨ ((¬ tm ≤ tk_med pa he aT j aS ∧ 0 ≤ ar) ∧ ((n = 512 ∧ r = -3 ∧ u = tk_w1 o q ca aP aH aT aG aL aA aF (tk_mS pa he aT j aS) n) ∨ (n < 512 ∧ r = nI n ∧ ∃ g, 2048 ≤ g ∧ g ≤ 65535 ∧ tk_tb pa he aT aG j = nI g ∧ u = tk_w1 o q ca (upd aP n (nI j)) (upd aH n (nI (he j + 1))) (upd aT n tm) (upd aG n (nI g)) (vp_updL aL n (lN (wk j + 16777216 / g))) (upd aA n ar) aF (tk_mS pa he aT j aS) (n + 1))))))) (tk_E (dC, dI) (tk_t1 ca) (va_A (tk_w1 o q ca aP aH aT aG aL aA aF aS n) sz)) (va_A (tk_w1 o q ca aP aH aT aG aL aA aF aS n) sz)) 0 0 (va_A (tk_w1 o q ca aP aH aT aG aL aA aF aS n) sz) := by
  refine Met.ofW (cc := cX1_add) (maxL := 5) (ret := (some .int)) (by decide) rfl ?_
  intro p e s m args below meth c s₁ B hml hv
  obtain ⟨rfl, hsz, hP, hK, hD0⟩ := hv
  have hx := B.exec
  have hb := B.bytes
  have hr := B.returns
  have hts := atoms_spec (ws := wsX1_add) B.pre
  have hown : s.vm.findClass RX1 = some m.cls := findClass_of_methodNamed B.named
  have hlocks := B.notSynchronized
  have hin0 : ∀ w ∈ u_ws RX1 TX1 9, w ∈ wsX1_add := by decide +kernel
  have fl36 := hts (.fieldLink RX1 36 "WorkTreeModel" "count" "I") (by decide +kernel)
  have fl9 := hts (.fieldLink RX1 9 "WorkTreeModel" "parent" "[I") (by decide +kernel)
  have fl16 := hts (.fieldLink RX1 16 "WorkTreeModel" "time" "[I") (by decide +kernel)
  have fl26 := hts (.fieldLink RX1 26 "WorkTreeModel" "arrival" "[I") (by decide +kernel)
  have fl13 := hts (.fieldLink RX1 13 "WorkTreeModel" "height" "[I") (by decide +kernel)
  have fl19 := hts (.fieldLink RX1 19 "WorkTreeModel" "target" "[I") (by decide +kernel)
  have fl22 := hts (.fieldLink RX1 22 "WorkTreeModel" "work" "[J") (by decide +kernel)
  have kc52 := hts (.constant RX1 52 (16777216)) (by decide +kernel)
  subst hsz
  have hD := hD0.self (sz := s.heap.size)
  generalize hAe : va_A (tk_w1 o q ca aP aH aT aG aL aA aF aS n) s.heap.size = A at hD ⊢
  have hA : ∀ q : Nat, s.heap.size ≤ q → A q := fun q h => by rw [← hAe]; exact Or.inr h
  have hS : va_S A s.heap s.heap [] := va_S.rf
  have hl := lv_entry ([.ref o, .int b, .int tm, .int ar]) (n := 5) (Nat.le_of_ble_eq_true rfl)
  rw [lg_entry_eq]
  generalize (lg_sl ([.ref o, .int b, .int tm, .int ar]) ++ List.replicate (5 - (lg_sl ([.ref o, .int b, .int tm, .int ar])).length) Slot.unset).toArray = ls at hl ⊢
  have hl : lv_has ls 5 [(0, .ref o), (1, .int b), (2, .int tm), (3, .int ar)] := hl
  refine tk_Q (fun Q hQ => ?_)
  have hn := hT.1.2
  refine lv_aload_n hx hb dX1_add_0 rfl (lv_at hl 0 rfl) ?_
  refine lv_iload_n hx hb dX1_add_1 rfl (lv_at hl 1 rfl) ?_
  refine vp_callSi (W.runV (As := [.int b]) (rest := []) ⟨hx, hb, hml, hown, hts⟩ (c1_is l dC dI o q ca aP aH aT aG aL aA aF aS n b) (cwV 1 hts gX1_add_X1_is rfl rfl rfl (by decide +kernel) ⟨Nat.le_of_ble_eq_true rfl, Nat.le_of_ble_eq_true rfl⟩) (tk_pre hK hP rfl rfl) rfl rfl hl.1 rfl (lv_room (Nat.le_of_ble_eq_true rfl)) dX1_add_2 ⟨Nat.le_of_ble_eq_true rfl, Nat.le_of_ble_eq_true rfl⟩) (fun r hr1 => ?_)
  refine tk_top (y := tk_ex n b) hr1 ?_
  refine lv_if_eq (tgt := 21) hx hb dX1_add_5 (by decide) (fun hc5 => ?_) (fun hc5 => ?_)
  · refine lv_iconst (v := -1) hx hb dX1_add_21 (by decide +kernel) ?_
    subst hQ
    exact W.iret hx hb hr (fun t ht hW => ⟨⟨-1, tk_w1 o q ca aP aH aT aG aL aA aF aS n, rfl, (Or.inl ⟨hc5, rfl, rfl⟩), by rw [ht]; exact hP, va_K.moved hW.alike hK, hD⟩, hS.F ht⟩) hS.2.2 dX1_add_22
  · obtain ⟨j, hj, rfl⟩ := tk_ex_t hn hc5
    have hjj := (hT.2.2.2.1 j hj).2
    have hwj := (hL j hj).2
    obtain ⟨g, hg1, hg2, hg⟩ := tk_tb_in (pa := pa) (he := he) (aT := aT) hG hj
    refine lv_iload_n hx hb dX1_add_8 rfl (lv_at hl 2 rfl) ?_
    refine lv_aload_n hx hb dX1_add_9 rfl (lv_at hl 0 rfl) ?_
    refine lv_iload_n hx hb dX1_add_10 rfl (lv_at hl 1 rfl) ?_
    have hFc := va_free (wc := tk_w1 o q ca aP aH aT aG aL aA aF aS n) hD hS hA [0, 1, 2, 3, 4, 5, 6, 7, 8] rfl
    refine va_calli (va_runV (As := [.int (nI j)]) (rest := [.int tm]) ⟨hx, hb, hml, hown, hts⟩ (c1_median l dC dI o q ca aP aH aT aG aL aA aF aS n _ pa he hT (nI j)) (cwV 1 hts gX1_add_X1_median rfl rfl rfl (by decide +kernel) ⟨Nat.le_of_ble_eq_true rfl, Nat.le_of_ble_eq_true rfl⟩) (tk_preW hK hP hD rfl rfl) rfl rfl hl.1 rfl (lv_room (Nat.le_of_ble_eq_true rfl)) dX1_add_11 ⟨Nat.le_of_ble_eq_true rfl, Nat.le_of_ble_eq_true rfl⟩) hS (fun q _ h => hFc q h) hFc (fun r u t Hp locs ht hvm hw hB hz1 hk1 hS => ?_)
    obtain ⟨hr1, hw⟩ := hw
    subst hw
    obtain ⟨hP, hK1, hD1⟩ := hB
    rw [ht] at hP
    have hD : va_D A (tk_w1 o q ca aP aH aT aG aL aA aF (tk_mb pa he aT n (nI j) aS) n) := hD1.weaken (fun _ _ _ h => hFc _ h)
    refine tk_top (y := tk_pb n (nI j) (fun j => tk_med pa he aT j aS)) hr1 ?_
    rw [tk_mbn hn hj] at hP hD
    refine tk_top (y := tk_med pa he aT j aS) (tk_pbn (f := fun j => tk_med pa he aT j aS) hn hj) ?_
    refine lv_icmp_le (tgt := 21) hx hb dX1_add_14 (by decide) (fun hc14 => ?_) (fun hc14 => ?_)
    · refine lv_iconst (v := -1) hx hb dX1_add_21 (by decide +kernel) ?_
      subst hQ
      exact W.iret hx hb hr (fun t ht hW => ⟨⟨-1, tk_w1 o q ca aP aH aT aG aL aA aF (tk_mS pa he aT j aS) n, rfl, (Or.inr ⟨j, hj, rfl, Or.inl ⟨Or.inl hc14, rfl, rfl⟩⟩), by rw [ht]; exact hP, va_K.moved hW.alike hK, hD⟩, hS.F ht⟩) hS.2.2 dX1_add_22
    · refine lv_iload_n hx hb dX1_add_17 rfl (lv_at hl 3 rfl) ?_
      refine lv_if_ge (tgt := 23) hx hb dX1_add_18 (by decide) (fun hc18 => ?_) (fun hc18 => ?_)
      · refine lv_aload_n hx hb dX1_add_23 rfl (lv_at hl 0 rfl) ?_
        refine va_get (D := (dC, dI)) (ci := 1) (v := .int (nI n)) (C := RX1) (T := TX1) (N := 9) hx hb hts hin0 hown hK hP 0 rfl rfl 8 (by decide) fl36 (fun _ h9 => h9) rfl dX1_add_24 ?_
        refine lv_sipush (v := nI 512) hx hb dX1_add_27 (by decide +kernel) ?_
        refine lv_icmp_ne (tgt := 36) hx hb dX1_add_30 (by decide) (fun hc30 => ?_) (fun hc30 => ?_)
        · have e30 : ¬ n = 512 := fun z => hc30 (congrArg nI z)
          refine lv_aload_n hx hb dX1_add_36 rfl (lv_at hl 0 rfl) ?_
          refine va_get (D := (dC, dI)) (ci := 1) (v := .int (nI n)) (C := RX1) (T := TX1) (N := 9) hx hb hts hin0 hown hK hP 0 rfl rfl 8 (by decide) fl36 (fun _ h9 => h9) rfl dX1_add_37 ?_
          refine lv_istore hx hb dX1_add_40 hl (by decide) rfl (fun ls hl => ?_)
          have hl : lv_has ls 5 [(4, .int (nI n)), (0, .ref o), (1, .int (nI j)), (2, .int tm), (3, .int ar)] := hl
          refine lv_aload_n hx hb dX1_add_42 rfl (lv_at hl 1 rfl) ?_
          refine va_get (D := (dC, dI)) (ci := 1) (v := .ref (q 0)) (C := RX1) (T := TX1) (N := 9) hx hb hts hin0 hown hK hP 0 rfl rfl 0 (by decide) fl9 (fun _ h9 => h9) rfl dX1_add_43 ?_
          refine lv_iload hx hb dX1_add_46 (lv_at hl 0 rfl) ?_
          refine lv_iload_n hx hb dX1_add_48 rfl (lv_at hl 2 rfl) ?_
          refine tk_sti hx hb hK hP hD hS 1 0 rfl rfl n (by omega) (by decide) dX1_add_49 (fun Hp locs hP hD hS => ?_)
          have hP : va_P (dC, dI) vwCl (tk_w1 o q ca (upd aP n (nI j)) aH aT aG aL aA aF (tk_mS pa he aT j aS) n) Hp := hP
          have hD : va_D A (tk_w1 o q ca (upd aP n (nI j)) aH aT aG aL aA aF (tk_mS pa he aT j aS) n) := hD
          refine lv_aload_n hx hb dX1_add_50 rfl (lv_at hl 1 rfl) ?_
          refine va_get (D := (dC, dI)) (ci := 1) (v := .ref (q 2)) (C := RX1) (T := TX1) (N := 9) hx hb hts hin0 hown hK hP 0 rfl rfl 2 (by decide) fl16 (fun _ h9 => h9) rfl dX1_add_51 ?_
          refine lv_iload hx hb dX1_add_54 (lv_at hl 0 rfl) ?_
          refine lv_iload_n hx hb dX1_add_56 rfl (lv_at hl 3 rfl) ?_
          refine tk_sti hx hb hK hP hD hS 3 2 rfl rfl n (by omega) (by decide) dX1_add_57 (fun Hp locs hP hD hS => ?_)
          have hP : va_P (dC, dI) vwCl (tk_w1 o q ca (upd aP n (nI j)) aH (upd aT n tm) aG aL aA aF (tk_mS pa he aT j aS) n) Hp := hP
          have hD : va_D A (tk_w1 o q ca (upd aP n (nI j)) aH (upd aT n tm) aG aL aA aF (tk_mS pa he aT j aS) n) := hD
          refine lv_aload_n hx hb dX1_add_58 rfl (lv_at hl 1 rfl) ?_
          refine va_get (D := (dC, dI)) (ci := 1) (v := .ref (q 5)) (C := RX1) (T := TX1) (N := 9) hx hb hts hin0 hown hK hP 0 rfl rfl 5 (by decide) fl26 (fun _ h9 => h9) rfl dX1_add_59 ?_
          refine lv_iload hx hb dX1_add_62 (lv_at hl 0 rfl) ?_
          refine lv_iload_n hx hb dX1_add_64 rfl (lv_at hl 4 rfl) ?_
          refine tk_sti hx hb hK hP hD hS 6 5 rfl rfl n (by omega) (by decide) dX1_add_65 (fun Hp locs hP hD hS => ?_)
          have hP : va_P (dC, dI) vwCl (tk_w1 o q ca (upd aP n (nI j)) aH (upd aT n tm) aG aL (upd aA n ar) aF (tk_mS pa he aT j aS) n) Hp := hP
          have hD : va_D A (tk_w1 o q ca (upd aP n (nI j)) aH (upd aT n tm) aG aL (upd aA n ar) aF (tk_mS pa he aT j aS) n) := hD
          refine lv_aload_n hx hb dX1_add_66 rfl (lv_at hl 1 rfl) ?_
          refine va_get (D := (dC, dI)) (ci := 1) (v := .ref (q 1)) (C := RX1) (T := TX1) (N := 9) hx hb hts hin0 hown hK hP 0 rfl rfl 1 (by decide) fl13 (fun _ h9 => h9) rfl dX1_add_67 ?_
          refine lv_iload hx hb dX1_add_70 (lv_at hl 0 rfl) ?_
          refine lv_aload_n hx hb dX1_add_72 rfl (lv_at hl 1 rfl) ?_
          refine va_get (D := (dC, dI)) (ci := 1) (v := .ref (q 1)) (C := RX1) (T := TX1) (N := 9) hx hb hts hin0 hown hK hP 0 rfl rfl 1 (by decide) fl13 (fun _ h9 => h9) rfl dX1_add_73 ?_
          refine lv_iload_n hx hb dX1_add_76 rfl (lv_at hl 2 rfl) ?_
          refine tk_rdi (v := nI (he j)) hx hb hK hP 2 1 rfl rfl (j) (by omega) (by decide) (hT.2.2.2.1 j hj).1 dX1_add_77 ?_
          refine lv_iconst (v := nI 1) hx hb dX1_add_78 (by decide +kernel) ?_
          refine lv_iadd hx hb dX1_add_79 ?_
          refine tk_top (y := nI (he j + 1)) (tk_add1 _) ?_
          refine tk_sti hx hb hK hP hD hS 2 1 rfl rfl n (by omega) (by decide) dX1_add_80 (fun Hp locs hP hD hS => ?_)
          have hP : va_P (dC, dI) vwCl (tk_w1 o q ca (upd aP n (nI j)) (upd aH n (nI (he j + 1))) (upd aT n tm) aG aL (upd aA n ar) aF (tk_mS pa he aT j aS) n) Hp := hP
          have hD : va_D A (tk_w1 o q ca (upd aP n (nI j)) (upd aH n (nI (he j + 1))) (upd aT n tm) aG aL (upd aA n ar) aF (tk_mS pa he aT j aS) n) := hD
          refine lv_aload_n hx hb dX1_add_81 rfl (lv_at hl 1 rfl) ?_
          refine va_get (D := (dC, dI)) (ci := 1) (v := .ref (q 3)) (C := RX1) (T := TX1) (N := 9) hx hb hts hin0 hown hK hP 0 rfl rfl 3 (by decide) fl19 (fun _ h9 => h9) rfl dX1_add_82 ?_
          refine lv_iload hx hb dX1_add_85 (lv_at hl 0 rfl) ?_
          refine lv_aload_n hx hb dX1_add_87 rfl (lv_at hl 1 rfl) ?_
          refine lv_iload_n hx hb dX1_add_88 rfl (lv_at hl 2 rfl) ?_
          have hT2 : tk_I (upd aP n (nI j)) (upd aH n (nI (he j + 1))) pa he n := tk_I_ext hT (fun i hi => pk_un (by omega)) (fun i hi => pk_un (by omega))
          refine vp_callSi (W.runV (As := [.int (nI j)]) (rest := [.int (nI n), .ref (q 3)]) ⟨hx, hb, hml, hown, hts⟩ (c1_due l dC dI o q ca (upd aP n (nI j)) (upd aH n (nI (he j + 1))) (upd aT n tm) aG aL (upd aA n ar) aF (tk_mS pa he aT j aS) n pa he hT2 (nI j)) (cwV 1 hts gX1_add_X1_due rfl rfl rfl (by decide +kernel) ⟨Nat.le_of_ble_eq_true rfl, Nat.le_of_ble_eq_true rfl⟩) (tk_pre hK hP rfl rfl) rfl rfl hl.1 rfl (lv_room (Nat.le_of_ble_eq_true rfl)) dX1_add_89 ⟨Nat.le_of_ble_eq_true rfl, Nat.le_of_ble_eq_true rfl⟩) (fun r hr1 => ?_)
          refine tk_top (y := tk_pb n (nI j) (tk_tb pa he (upd aT n tm) aG)) hr1 ?_
          refine tk_top (y := nI g) ((tk_pbn hn hj).trans ((tk_tb_ext hT hj (fun i hi => pk_un (by omega))).trans hg)) ?_
          refine tk_sti hx hb hK hP hD hS 4 3 rfl rfl n (by omega) (by decide) dX1_add_92 (fun Hp locs hP hD hS => ?_)
          have hP : va_P (dC, dI) vwCl (tk_w1 o q ca (upd aP n (nI j)) (upd aH n (nI (he j + 1))) (upd aT n tm) (upd aG n (nI g)) aL (upd aA n ar) aF (tk_mS pa he aT j aS) n) Hp := hP
          have hD : va_D A (tk_w1 o q ca (upd aP n (nI j)) (upd aH n (nI (he j + 1))) (upd aT n tm) (upd aG n (nI g)) aL (upd aA n ar) aF (tk_mS pa he aT j aS) n) := hD
          refine lv_aload_n hx hb dX1_add_93 rfl (lv_at hl 1 rfl) ?_
          refine va_get (D := (dC, dI)) (ci := 1) (v := .ref (q 4)) (C := RX1) (T := TX1) (N := 9) hx hb hts hin0 hown hK hP 0 rfl rfl 4 (by decide) fl22 (fun _ h9 => h9) rfl dX1_add_94 ?_
          refine lv_iload hx hb dX1_add_97 (lv_at hl 0 rfl) ?_
          refine lv_aload_n hx hb dX1_add_99 rfl (lv_at hl 1 rfl) ?_
          refine va_get (D := (dC, dI)) (ci := 1) (v := .ref (q 4)) (C := RX1) (T := TX1) (N := 9) hx hb hts hin0 hown hK hP 0 rfl rfl 4 (by decide) fl22 (fun _ h9 => h9) rfl dX1_add_100 ?_
          refine lv_iload_n hx hb dX1_add_103 rfl (lv_at hl 2 rfl) ?_
          refine tk_rdl (v := lN (wk j)) hx hb hK hP 5 4 rfl rfl (j) (by omega) (by decide) (hL j hj).1 dX1_add_104 ?_
          refine lv_ldc (v := 16777216) hx hb hown kc52 dX1_add_105 ?_
          refine tk_top (y := nI 16777216) (by decide +kernel) ?_
          refine lv_aload_n hx hb dX1_add_107 rfl (lv_at hl 1 rfl) ?_
          refine va_get (D := (dC, dI)) (ci := 1) (v := .ref (q 3)) (C := RX1) (T := TX1) (N := 9) hx hb hts hin0 hown hK hP 0 rfl rfl 3 (by decide) fl19 (fun _ h9 => h9) rfl dX1_add_108 ?_
          refine lv_iload hx hb dX1_add_111 (lv_at hl 0 rfl) ?_
          refine tk_rdi (v := nI g) hx hb hK hP 4 3 rfl rfl (n) (by omega) (by decide) pk_us dX1_add_113 ?_
          refine lv_idiv hx hb dX1_add_114 (fun z => absurd ((tk_eq0 (by omega)).mp z) (by omega)) ?_
          refine tk_top (y := nI (16777216 / g)) (pk_div (by decide) (by omega) (by omega)) ?_
          refine lv_i2l (v := lN (16777216 / g)) hx hb dX1_add_115 (nI_l (Nat.lt_of_le_of_lt (Nat.div_le_self _ _) (by decide))) ?_
          refine lv_ladd hx hb dX1_add_116 ?_
          refine tk_topl (y := lN (wk j + 16777216 / g)) (lN_add _ _) ?_
          refine tk_stl hx hb hK hP hD hS 5 4 rfl rfl n (by omega) (by decide) dX1_add_117 (fun Hp locs hP hD hS => ?_)
          have hP : va_P (dC, dI) vwCl (tk_w1 o q ca (upd aP n (nI j)) (upd aH n (nI (he j + 1))) (upd aT n tm) (upd aG n (nI g)) (vp_updL aL n (lN (wk j + 16777216 / g))) (upd aA n ar) aF (tk_mS pa he aT j aS) n) Hp := hP
          have hD : va_D A (tk_w1 o q ca (upd aP n (nI j)) (upd aH n (nI (he j + 1))) (upd aT n tm) (upd aG n (nI g)) (vp_updL aL n (lN (wk j + 16777216 / g))) (upd aA n ar) aF (tk_mS pa he aT j aS) n) := hD
          refine lv_aload_n hx hb dX1_add_118 rfl (lv_at hl 1 rfl) ?_
          refine lv_dup hx hb dX1_add_119 rfl ?_
          refine va_get (D := (dC, dI)) (ci := 1) (v := .int (nI n)) (C := RX1) (T := TX1) (N := 9) hx hb hts hin0 hown hK hP 0 rfl rfl 8 (by decide) fl36 (fun _ h9 => h9) rfl dX1_add_120 ?_
          refine lv_iconst (v := nI 1) hx hb dX1_add_123 (by decide +kernel) ?_
          refine lv_iadd hx hb dX1_add_124 ?_
          refine tk_top (y := nI (n + 1)) (tk_add1 n) ?_
          refine va_put (D := (dC, dI)) (ci := 1) (v := .int (nI (n + 1))) (ty := .int) (C := RX1) (T := TX1) (N := 9) hx hb hts hin0 tyX1 tyX1_ok nmX1 hown hK hP hD hS 0 rfl rfl 8 (by decide) fl36 (fun _ h9 => h9) rfl (by decide +kernel) rfl rfl (Nat.le_of_ble_eq_true rfl) dX1_add_125 (fun Hp locs hP hD hS => ?_)
          have hP : va_P (dC, dI) vwCl (tk_w1 o q ca (upd aP n (nI j)) (upd aH n (nI (he j + 1))) (upd aT n tm) (upd aG n (nI g)) (vp_updL aL n (lN (wk j + 16777216 / g))) (upd aA n ar) aF (tk_mS pa he aT j aS) (n + 1)) Hp := hP
          have hD : va_D A (tk_w1 o q ca (upd aP n (nI j)) (upd aH n (nI (he j + 1))) (upd aT n tm) (upd aG n (nI g)) (vp_updL aL n (lN (wk j + 16777216 / g))) (upd aA n ar) aF (tk_mS pa he aT j aS) (n + 1)) := hD
          refine lv_iload hx hb dX1_add_128 (lv_at hl 0 rfl) ?_
          subst hQ
          exact W.iret hx hb hr (fun t ht hW => ⟨⟨nI n, tk_w1 o q ca (upd aP n (nI j)) (upd aH n (nI (he j + 1))) (upd aT n tm) (upd aG n (nI g)) (vp_updL aL n (lN (wk j + 16777216 / g))) (upd aA n ar) aF (tk_mS pa he aT j aS) (n + 1), rfl, (Or.inr ⟨j, hj, rfl, Or.inr ⟨⟨hc14, hc18⟩, Or.inr ⟨by omega, rfl, g, hg1, hg2, hg, rfl⟩⟩⟩), by rw [ht]; exact hP, va_K.moved hW.alike hK, hD⟩, hS.F ht⟩) hS.2.2 dX1_add_130
        · have e30 := (nI_eq (by omega) (by decide)).mp hc30
          refine lv_bipush (v := -3) hx hb dX1_add_33 (by decide +kernel) ?_
          subst hQ
          exact W.iret hx hb hr (fun t ht hW => ⟨⟨-3, tk_w1 o q ca aP aH aT aG aL aA aF (tk_mS pa he aT j aS) n, rfl, (Or.inr ⟨j, hj, rfl, Or.inr ⟨⟨hc14, hc18⟩, Or.inl ⟨e30, rfl, rfl⟩⟩⟩), by rw [ht]; exact hP, va_K.moved hW.alike hK, hD⟩, hS.F ht⟩) hS.2.2 dX1_add_35
      · refine lv_iconst (v := -1) hx hb dX1_add_21 (by decide +kernel) ?_
        subst hQ
        exact W.iret hx hb hr (fun t ht hW => ⟨⟨-1, tk_w1 o q ca aP aH aT aG aL aA aF (tk_mS pa he aT j aS) n, rfl, (Or.inr ⟨j, hj, rfl, Or.inl ⟨Or.inr hc18, rfl, rfl⟩⟩), by rw [ht]; exact hP, va_K.moved hW.alike hK, hD⟩, hS.F ht⟩) hS.2.2 dX1_add_22
