set_option maxHeartbeats 4000000 in
set_option maxRecDepth 100000 in
theorem c0_ancestorAt (l : Launch) (dC : Nat → ClassId) (dI : Nat → Nat → Nat) (o : Nat) (q : Nat → Nat) (ca : Nat → ClassId) (aP aH aT aA aG aK aZ aS : Nat → Int32) (n : Nat) (pa he : Nat → Nat) (hT : tk_I aP aH pa he n) (j k t : Nat) (hj : j < n) (hk : t + k = he j) : Met l yX0_ancestorAt wsX0_ancestorAt ({ frames := 0, cells := 0, slots := 0, locals := 0 }) (tk_R (dC, dI) (tk_w0 o q ca aP aH aT aA aG aK aZ aS n) (tk_t0 ca) [.ref o, .int (nI j), .int (nI t)]) (vp_Si (fun r => r = nI (tk_anc pa k j))) 0 0 (fun _ => False) := by
  refine Met.ofW (cc := cX0_ancestorAt) (maxL := 5) (ret := (some .int)) (by decide) rfl ?_
  intro p e s m args below meth c s₁ B hml hv
  obtain ⟨rfl, hP, hK⟩ := hv
  have hx := B.exec
  have hb := B.bytes
  have hr := B.returns
  have hts := atoms_spec (ws := wsX0_ancestorAt) B.pre
  have hown : s.vm.findClass RX0 = some m.cls := findClass_of_methodNamed B.named
  have hlocks := B.notSynchronized
  have hin0 : ∀ w ∈ u_ws RX0 TX0 9, w ∈ wsX0_ancestorAt := by decide +kernel
  have fl13 := hts (.fieldLink RX0 13 "WorkTree" "heights" "[I") (by decide +kernel)
  have fl9 := hts (.fieldLink RX0 9 "WorkTree" "parents" "[I") (by decide +kernel)
  have hl := lv_entry ([.ref o, .int (nI j), .int (nI t)]) (n := 5) (Nat.le_of_ble_eq_true rfl)
  rw [lg_entry_eq]
  generalize (lg_sl ([.ref o, .int (nI j), .int (nI t)]) ++ List.replicate (5 - (lg_sl ([.ref o, .int (nI j), .int (nI t)])).length) Slot.unset).toArray = ls at hl ⊢
  have hl : lv_has ls 5 [(0, .ref o), (1, .int (nI j)), (2, .int (nI t))] := hl
  refine tk_Q (fun Q hQ => ?_)
  have hn := hT.1.2
  have hjj := (hT.2.2.2.1 j hj).2
  generalize hzz : tk_anc pa k j = z at hQ
  have loop : ∀ (k : Nat) (a : Nat) (ls : Array Slot), a < n → he a = t + k → tk_anc pa k a = z → lv_has ls 5 [(4, .int (nI (he a))), (3, .int (nI a)), (0, .ref o), (1, .int (nI j)), (2, .int (nI t))] → W p l e (headSpec wsX0_ancestorAt ({ frames := 0, cells := 0, slots := 0, locals := 0 })).room s m ([.ref o, .int (nI j), .int (nI t)] : List Value).toArray below meth c s.heap [] 0 0 Q (F0 m 10 ls []) := by
    intro k
    induction k with
    | zero =>
      intro a ls ha hka hz hl
      have hka2 := (hT.2.2.2.1 a ha).2
      refine lv_iload hx hb dX0_ancestorAt_10 (lv_at hl 0 rfl) ?_
      refine lv_iload_n hx hb dX0_ancestorAt_12 rfl (lv_at hl 4 rfl) ?_
      refine lv_icmp_le (tgt := 29) hx hb dX0_ancestorAt_13 (by decide) (fun hc13 => ?_) (fun hc13 => ?_)
      · refine lv_iload_n hx hb dX0_ancestorAt_29 rfl (lv_at hl 1 rfl) ?_
        subst hQ
        exact tk_iret hx hb hr hlocks (show nI a = nI z from congrArg nI hz) dX0_ancestorAt_30
      · exact absurd (nI_le (by omega) (by omega)) hc13
    | succ k ih =>
      intro a ls ha hka hz hl
      have hka2 := (hT.2.2.2.1 a ha).2
      refine lv_iload hx hb dX0_ancestorAt_10 (lv_at hl 0 rfl) ?_
      refine lv_iload_n hx hb dX0_ancestorAt_12 rfl (lv_at hl 4 rfl) ?_
      refine lv_icmp_le (tgt := 29) hx hb dX0_ancestorAt_13 (by decide) (fun hc13 => ?_) (fun hc13 => ?_)
      · exact absurd ((nI_leI (by omega) (by omega)).mp hc13) (by omega)
      · obtain ⟨u1, u2, u3, u4⟩ := tk_up hT ha (by omega)
        refine lv_aload_n hx hb dX0_ancestorAt_16 rfl (lv_at hl 2 rfl) ?_
        refine va_get (D := (dC, dI)) (ci := 0) (v := .ref (q 0)) (C := RX0) (T := TX0) (N := 9) hx hb hts hin0 hown hK hP 0 rfl rfl 0 (by decide) fl9 (fun _ h9 => h9) rfl dX0_ancestorAt_17 ?_
        refine lv_iload_n hx hb dX0_ancestorAt_20 rfl (lv_at hl 1 rfl) ?_
        refine tk_rdi (v := nI (pa a)) hx hb hK hP 1 0 rfl rfl (a) (by omega) (by decide) u2 dX0_ancestorAt_21 ?_
        refine lv_istore_n hx hb dX0_ancestorAt_22 rfl hl (by decide) rfl (fun ls hl => ?_)
        have hl : lv_has ls 5 [(3, .int (nI (pa a))), (4, .int (nI (he a))), (0, .ref o), (1, .int (nI j)), (2, .int (nI t))] := hl
        refine lv_iinc (k := 1) (v := nI (he (pa a))) hx hb dX0_ancestorAt_23 hl rfl (by rw [u4]; exact tk_dec _) (by decide) rfl (fun ls hl => ?_)
        have hl : lv_has ls 5 [(4, .int (nI (he (pa a)))), (3, .int (nI (pa a))), (0, .ref o), (1, .int (nI j)), (2, .int (nI t))] := hl
        refine lv_goto (tgt := 10) hx hb dX0_ancestorAt_26 (by decide) ?_
        exact ih (pa a) ls (by omega) (by omega) hz hl
  refine lv_iload_n hx hb dX0_ancestorAt_0 rfl (lv_at hl 1 rfl) ?_
  refine lv_istore_n hx hb dX0_ancestorAt_1 rfl hl (by decide) rfl (fun ls hl => ?_)
  have hl : lv_has ls 5 [(3, .int (nI j)), (0, .ref o), (1, .int (nI j)), (2, .int (nI t))] := hl
  refine lv_aload_n hx hb dX0_ancestorAt_2 rfl (lv_at hl 1 rfl) ?_
  refine va_get (D := (dC, dI)) (ci := 0) (v := .ref (q 1)) (C := RX0) (T := TX0) (N := 9) hx hb hts hin0 hown hK hP 0 rfl rfl 1 (by decide) fl13 (fun _ h9 => h9) rfl dX0_ancestorAt_3 ?_
  refine lv_iload_n hx hb dX0_ancestorAt_6 rfl (lv_at hl 2 rfl) ?_
  refine tk_rdi (v := nI (he j)) hx hb hK hP 2 1 rfl rfl (j) (by omega) (by decide) (hT.2.2.2.1 j hj).1 dX0_ancestorAt_7 ?_
  refine lv_istore hx hb dX0_ancestorAt_8 hl (by decide) rfl (fun ls hl => ?_)
  have hl : lv_has ls 5 [(4, .int (nI (he j))), (3, .int (nI j)), (0, .ref o), (1, .int (nI j)), (2, .int (nI t))] := hl
  exact loop k j ls hj hk.symm hzz hl
set_option maxHeartbeats 4000000 in
set_option maxRecDepth 100000 in
theorem c0_isBetter (l : Launch) (dC : Nat → ClassId) (dI : Nat → Nat → Nat) (o : Nat) (q : Nat → Nat) (ca : Nat → ClassId) (aP aH aT aA aG aK aZ aS : Nat → Int32) (n : Nat) (wk : Nat → Nat) (hW : tk_Wk aK wk n) (hn : n ≤ 512) (a b : Nat) (ha : a < n) (hb0 : b < n) : Met l yX0_isBetter wsX0_isBetter ({ frames := 0, cells := 0, slots := 0, locals := 0 }) (tk_R (dC, dI) (tk_w0 o q ca aP aH aT aA aG aK aZ aS n) (tk_t0 ca) [.ref o, .int (nI a), .int (nI b)]) (vp_Si (fun r => r = tk_isb wk aA a b)) 0 0 (fun _ => False) := by
  refine Met.ofW (cc := cX0_isBetter) (maxL := 3) (ret := (some .boolean)) (by decide) rfl ?_
  intro p e s m args below meth c s₁ B hml hv
  obtain ⟨rfl, hP, hK⟩ := hv
  have hx := B.exec
  have hb := B.bytes
  have hr := B.returns
  have hts := atoms_spec (ws := wsX0_isBetter) B.pre
  have hown : s.vm.findClass RX0 = some m.cls := findClass_of_methodNamed B.named
  have hlocks := B.notSynchronized
  have hin0 : ∀ w ∈ u_ws RX0 TX0 9, w ∈ wsX0_isBetter := by decide +kernel
  have fl25 := hts (.fieldLink RX0 25 "WorkTree" "works" "[I") (by decide +kernel)
  have fl19 := hts (.fieldLink RX0 19 "WorkTree" "arrivals" "[I") (by decide +kernel)
  have hl := lv_entry ([.ref o, .int (nI a), .int (nI b)]) (n := 3) (Nat.le_of_ble_eq_true rfl)
  rw [lg_entry_eq]
  generalize (lg_sl ([.ref o, .int (nI a), .int (nI b)]) ++ List.replicate (3 - (lg_sl ([.ref o, .int (nI a), .int (nI b)])).length) Slot.unset).toArray = ls at hl ⊢
  have hl : lv_has ls 3 [(0, .ref o), (1, .int (nI a)), (2, .int (nI b))] := hl
  refine tk_Q (fun Q hQ => ?_)
  have hwa := (hW a ha).2
  have hwb := (hW b hb0).2
  refine lv_aload_n hx hb dX0_isBetter_0 rfl (lv_at hl 0 rfl) ?_
  refine va_get (D := (dC, dI)) (ci := 0) (v := .ref (q 5)) (C := RX0) (T := TX0) (N := 9) hx hb hts hin0 hown hK hP 0 rfl rfl 5 (by decide) fl25 (fun _ h9 => h9) rfl dX0_isBetter_1 ?_
  refine lv_iload_n hx hb dX0_isBetter_4 rfl (lv_at hl 1 rfl) ?_
  refine tk_rdi (v := nI (wk a)) hx hb hK hP 6 5 rfl rfl (a) (by omega) (by decide) (hW a ha).1 dX0_isBetter_5 ?_
  refine lv_aload_n hx hb dX0_isBetter_6 rfl (lv_at hl 0 rfl) ?_
  refine va_get (D := (dC, dI)) (ci := 0) (v := .ref (q 5)) (C := RX0) (T := TX0) (N := 9) hx hb hts hin0 hown hK hP 0 rfl rfl 5 (by decide) fl25 (fun _ h9 => h9) rfl dX0_isBetter_7 ?_
  refine lv_iload_n hx hb dX0_isBetter_10 rfl (lv_at hl 2 rfl) ?_
  refine tk_rdi (v := nI (wk b)) hx hb hK hP 6 5 rfl rfl (b) (by omega) (by decide) (hW b hb0).1 dX0_isBetter_11 ?_
  refine lv_icmp_eq (tgt := 36) hx hb dX0_isBetter_12 (by decide) (fun hc12 => ?_) (fun hc12 => ?_)
  · have e12 := (nI_eq (by omega) (by omega)).mp hc12
    refine lv_aload_n hx hb dX0_isBetter_36 rfl (lv_at hl 0 rfl) ?_
    refine va_get (D := (dC, dI)) (ci := 0) (v := .ref (q 3)) (C := RX0) (T := TX0) (N := 9) hx hb hts hin0 hown hK hP 0 rfl rfl 3 (by decide) fl19 (fun _ h9 => h9) rfl dX0_isBetter_37 ?_
    refine lv_iload_n hx hb dX0_isBetter_40 rfl (lv_at hl 1 rfl) ?_
    refine tk_rdi (v := aA a) hx hb hK hP 4 3 rfl rfl (a) (by omega) (by decide) rfl dX0_isBetter_41 ?_
    refine lv_aload_n hx hb dX0_isBetter_42 rfl (lv_at hl 0 rfl) ?_
    refine va_get (D := (dC, dI)) (ci := 0) (v := .ref (q 3)) (C := RX0) (T := TX0) (N := 9) hx hb hts hin0 hown hK hP 0 rfl rfl 3 (by decide) fl19 (fun _ h9 => h9) rfl dX0_isBetter_43 ?_
    refine lv_iload_n hx hb dX0_isBetter_46 rfl (lv_at hl 2 rfl) ?_
    refine tk_rdi (v := aA b) hx hb hK hP 4 3 rfl rfl (b) (by omega) (by decide) rfl dX0_isBetter_47 ?_
    refine lv_icmp_ge (tgt := 55) hx hb dX0_isBetter_48 (by decide) (fun hc48 => ?_) (fun hc48 => ?_)
    · refine lv_iconst (v := 0) hx hb dX0_isBetter_55 (by decide +kernel) ?_
      subst hQ
      exact tk_zret hx hb hr hlocks rfl (tk_isb_4 e12.symm (tk_nlt hc48)).symm dX0_isBetter_56
    · refine lv_iconst (v := 1) hx hb dX0_isBetter_51 (by decide +kernel) ?_
      refine lv_goto (tgt := 56) hx hb dX0_isBetter_52 (by decide) ?_
      subst hQ
      exact tk_zret hx hb hr hlocks rfl (tk_isb_2 e12.symm (tk_ltn hc48)).symm dX0_isBetter_56
  · have e12 : ¬ wk a = wk b := fun z => hc12 (congrArg nI z)
    refine lv_aload_n hx hb dX0_isBetter_15 rfl (lv_at hl 0 rfl) ?_
    refine va_get (D := (dC, dI)) (ci := 0) (v := .ref (q 5)) (C := RX0) (T := TX0) (N := 9) hx hb hts hin0 hown hK hP 0 rfl rfl 5 (by decide) fl25 (fun _ h9 => h9) rfl dX0_isBetter_16 ?_
    refine lv_iload_n hx hb dX0_isBetter_19 rfl (lv_at hl 1 rfl) ?_
    refine tk_rdi (v := nI (wk a)) hx hb hK hP 6 5 rfl rfl (a) (by omega) (by decide) (hW a ha).1 dX0_isBetter_20 ?_
    refine lv_aload_n hx hb dX0_isBetter_21 rfl (lv_at hl 0 rfl) ?_
    refine va_get (D := (dC, dI)) (ci := 0) (v := .ref (q 5)) (C := RX0) (T := TX0) (N := 9) hx hb hts hin0 hown hK hP 0 rfl rfl 5 (by decide) fl25 (fun _ h9 => h9) rfl dX0_isBetter_22 ?_
    refine lv_iload_n hx hb dX0_isBetter_25 rfl (lv_at hl 2 rfl) ?_
    refine tk_rdi (v := nI (wk b)) hx hb hK hP 6 5 rfl rfl (b) (by omega) (by decide) (hW b hb0).1 dX0_isBetter_26 ?_
    refine lv_icmp_le (tgt := 34) hx hb dX0_isBetter_27 (by decide) (fun hc27 => ?_) (fun hc27 => ?_)
    · have e27 := (nI_leI (by omega) (by omega)).mp hc27
      refine lv_iconst (v := 0) hx hb dX0_isBetter_34 (by decide +kernel) ?_
      subst hQ
      exact tk_zret hx hb hr hlocks rfl (tk_isb_3 (by omega)).symm dX0_isBetter_35
    · have e27 : ¬ wk a ≤ wk b := fun z => hc27 ((nI_leI (by omega) (by omega)).mpr z)
      refine lv_iconst (v := 1) hx hb dX0_isBetter_30 (by decide +kernel) ?_
      refine lv_goto (tgt := 35) hx hb dX0_isBetter_31 (by decide) ?_
      subst hQ
      exact tk_zret hx hb hr hlocks rfl (tk_isb_1 (by omega)).symm dX0_isBetter_35
set_option maxHeartbeats 4000000 in
set_option maxRecDepth 100000 in
theorem c0_bestBlock (l : Launch) (dC : Nat → ClassId) (dI : Nat → Nat → Nat) (o : Nat) (q : Nat → Nat) (ca : Nat → ClassId) (aP aH aT aA aG aK aZ aS : Nat → Int32) (n : Nat) (wk : Nat → Nat) (hW : tk_Wk aK wk n) (hn : n ≤ 512) (hn1 : 1 ≤ n) : Met l yX0_bestBlock wsX0_bestBlock ({ frames := 1, cells := 0, slots := 0, locals := 22 }) (tk_R (dC, dI) (tk_w0 o q ca aP aH aT aA aG aK aZ aS n) (tk_t0 ca) [.ref o]) (vp_Si (fun r => r = nI (tk_best aZ aA wk n))) 0 0 (fun _ => False) := by
  refine Met.ofW (cc := cX0_bestBlock) (maxL := 3) (ret := (some .int)) (by decide) rfl ?_
  intro p e s m args below meth c s₁ B hml hv
  obtain ⟨rfl, hP, hK⟩ := hv
  have hx := B.exec
  have hb := B.bytes
  have hr := B.returns
  have hts := atoms_spec (ws := wsX0_bestBlock) B.pre
  have hown : s.vm.findClass RX0 = some m.cls := findClass_of_methodNamed B.named
  have hlocks := B.notSynchronized
  have hin0 : ∀ w ∈ u_ws RX0 TX0 9, w ∈ wsX0_bestBlock := by decide +kernel
  have fl36 := hts (.fieldLink RX0 36 "WorkTree" "count" "I") (by decide +kernel)
  have fl28 := hts (.fieldLink RX0 28 "WorkTree" "wrong" "[Z") (by decide +kernel)
  have hl := lv_entry ([.ref o]) (n := 3) (Nat.le_of_ble_eq_true rfl)
  rw [lg_entry_eq]
  generalize (lg_sl ([.ref o]) ++ List.replicate (3 - (lg_sl ([.ref o])).length) Slot.unset).toArray = ls at hl ⊢
  have hl : lv_has ls 3 [(0, .ref o)] := hl
  refine tk_Q (fun Q hQ => ?_)
  generalize hzz : tk_best aZ aA wk n = z at hQ
  have loop : ∀ (c0 : Nat) (b f : Nat) (ls : Array Slot), b + c0 = n → f < n → tk_bs aZ aA wk c0 b f = z → lv_has ls 3 [(2, .int (nI b)), (1, .int (nI f)), (0, .ref o)] → W p l e (headSpec wsX0_bestBlock ({ frames := 1, cells := 0, slots := 0, locals := 22 })).room s m ([.ref o] : List Value).toArray below meth c s.heap [] 0 0 Q (F0 m 4 ls []) := by
    intro c0
    induction c0 with
    | zero =>
      intro b f ls hbn hf hz hl
      refine lv_iload_n hx hb dX0_bestBlock_4 rfl (lv_at hl 0 rfl) ?_
      refine lv_aload_n hx hb dX0_bestBlock_5 rfl (lv_at hl 2 rfl) ?_
      refine va_get (D := (dC, dI)) (ci := 0) (v := .int (nI n)) (C := RX0) (T := TX0) (N := 9) hx hb hts hin0 hown hK hP 0 rfl rfl 8 (by decide) fl36 (fun _ h9 => h9) rfl dX0_bestBlock_6 ?_
      refine lv_icmp_ge (tgt := 38) hx hb dX0_bestBlock_9 (by decide) (fun hc9 => ?_) (fun hc9 => ?_)
      · refine lv_iload_n hx hb dX0_bestBlock_38 rfl (lv_at hl 1 rfl) ?_
        subst hQ
        exact tk_iret hx hb hr hlocks (show nI f = nI z from congrArg nI hz) dX0_bestBlock_39
      · exact absurd (nI_le (by omega) (by omega)) hc9
    | succ c0 ih =>
      intro b f ls hbn hf hz hl
      refine lv_iload_n hx hb dX0_bestBlock_4 rfl (lv_at hl 0 rfl) ?_
      refine lv_aload_n hx hb dX0_bestBlock_5 rfl (lv_at hl 2 rfl) ?_
      refine va_get (D := (dC, dI)) (ci := 0) (v := .int (nI n)) (C := RX0) (T := TX0) (N := 9) hx hb hts hin0 hown hK hP 0 rfl rfl 8 (by decide) fl36 (fun _ h9 => h9) rfl dX0_bestBlock_6 ?_
      refine lv_icmp_ge (tgt := 38) hx hb dX0_bestBlock_9 (by decide) (fun hc9 => ?_) (fun hc9 => ?_)
      · exact absurd hc9 (nI_ge (by omega) (by omega))
      · refine lv_aload_n hx hb dX0_bestBlock_12 rfl (lv_at hl 2 rfl) ?_
        refine va_get (D := (dC, dI)) (ci := 0) (v := .ref (q 6)) (C := RX0) (T := TX0) (N := 9) hx hb hts hin0 hown hK hP 0 rfl rfl 6 (by decide) fl28 (fun _ h9 => h9) rfl dX0_bestBlock_13 ?_
        refine lv_iload_n hx hb dX0_bestBlock_16 rfl (lv_at hl 0 rfl) ?_
        refine tk_rdz (v := aZ b) hx hb hK hP 7 6 rfl rfl (b) (by omega) (by decide) rfl dX0_bestBlock_17 ?_
        refine lv_if_ne (tgt := 32) hx hb dX0_bestBlock_18 (by decide) (fun hc18 => ?_) (fun hc18 => ?_)
        · refine lv_iinc (k := 0) (v := nI (b + 1)) hx hb dX0_bestBlock_32 hl rfl (tk_inc b) (by decide) rfl (fun ls hl => ?_)
          have hl : lv_has ls 3 [(2, .int (nI (b + 1))), (1, .int (nI f)), (0, .ref o)] := hl
          refine lv_goto (tgt := 4) hx hb dX0_bestBlock_35 (by decide) ?_
          exact ih (b + 1) f ls (by omega) hf ((tk_bs_no (fun z9 => hc18 z9.1)).symm.trans hz) hl
        · refine lv_aload_n hx hb dX0_bestBlock_21 rfl (lv_at hl 2 rfl) ?_
          refine lv_iload_n hx hb dX0_bestBlock_22 rfl (lv_at hl 0 rfl) ?_
          refine lv_iload_n hx hb dX0_bestBlock_23 rfl (lv_at hl 1 rfl) ?_
          refine vp_callSi (W.runV (As := [.int (nI b), .int (nI f)]) (rest := []) ⟨hx, hb, hml, hown, hts⟩ (c0_isBetter l dC dI o q ca aP aH aT aA aG aK aZ aS n wk hW hn b f (by omega) hf) (cwV 2 hts gX0_bestBlock_X0_isBetter rfl rfl rfl (by decide +kernel) ⟨Nat.le_of_ble_eq_true rfl, Nat.le_of_ble_eq_true rfl⟩) (tk_pre hK hP rfl rfl) rfl rfl hl.1 rfl (lv_room (Nat.le_of_ble_eq_true rfl)) dX0_bestBlock_24 ⟨Nat.le_of_ble_eq_true rfl, Nat.le_of_ble_eq_true rfl⟩) (fun r hr1 => ?_)
          refine tk_top (y := tk_isb wk aA b f) hr1 ?_
          refine lv_if_eq (tgt := 32) hx hb dX0_bestBlock_27 (by decide) (fun hc27 => ?_) (fun hc27 => ?_)
          · refine lv_iinc (k := 0) (v := nI (b + 1)) hx hb dX0_bestBlock_32 hl rfl (tk_inc b) (by decide) rfl (fun ls hl => ?_)
            have hl : lv_has ls 3 [(2, .int (nI (b + 1))), (1, .int (nI f)), (0, .ref o)] := hl
            refine lv_goto (tgt := 4) hx hb dX0_bestBlock_35 (by decide) ?_
            exact ih (b + 1) f ls (by omega) hf ((tk_bs_no (fun z9 => tk_isb_0 hc27 z9.2)).symm.trans hz) hl
          · refine lv_iload_n hx hb dX0_bestBlock_30 rfl (lv_at hl 0 rfl) ?_
            refine lv_istore_n hx hb dX0_bestBlock_31 rfl hl (by decide) rfl (fun ls hl => ?_)
            have hl : lv_has ls 3 [(1, .int (nI b)), (2, .int (nI b)), (0, .ref o)] := hl
            refine lv_iinc (k := 1) (v := nI (b + 1)) hx hb dX0_bestBlock_32 hl rfl (tk_inc b) (by decide) rfl (fun ls hl => ?_)
            have hl : lv_has ls 3 [(2, .int (nI (b + 1))), (1, .int (nI b)), (0, .ref o)] := hl
            refine lv_goto (tgt := 4) hx hb dX0_bestBlock_35 (by decide) ?_
            exact ih (b + 1) b ls (by omega) (by omega) ((tk_bs_yes ⟨hc18, tk_isb_ne hc27⟩).symm.trans hz) hl
  refine lv_iconst (v := nI 0) hx hb dX0_bestBlock_0 (by decide +kernel) ?_
  refine lv_istore_n hx hb dX0_bestBlock_1 rfl hl (by decide) rfl (fun ls hl => ?_)
  have hl : lv_has ls 3 [(1, .int (nI 0)), (0, .ref o)] := hl
  refine lv_iconst (v := nI 1) hx hb dX0_bestBlock_2 (by decide +kernel) ?_
  refine lv_istore_n hx hb dX0_bestBlock_3 rfl hl (by decide) rfl (fun ls hl => ?_)
  have hl : lv_has ls 3 [(2, .int (nI 1)), (1, .int (nI 0)), (0, .ref o)] := hl
  exact loop (n - 1) 1 0 ls (by omega) (by omega) hzz hl
set_option maxHeartbeats 4000000 in
set_option maxRecDepth 100000 in
theorem c0_best (l : Launch) (dC : Nat → ClassId) (dI : Nat → Nat → Nat) (o : Nat) (q : Nat → Nat) (ca : Nat → ClassId) (aP aH aT aA aG aK aZ aS : Nat → Int32) (n : Nat) (wk : Nat → Nat) (hW : tk_Wk aK wk n) (hn : n ≤ 512) (hn1 : 1 ≤ n) : Met l yX0_best wsX0_best ({ frames := 2, cells := 0, slots := 0, locals := 44 }) (tk_R (dC, dI) (tk_w0 o q ca aP aH aT aA aG aK aZ aS n) (tk_t0 ca) [.ref o]) (vp_Si (fun r => r = nI (tk_best aZ aA wk n))) 0 0 (fun _ => False) := by
  refine Met.ofW (cc := cX0_best) (maxL := 1) (ret := (some .int)) (by decide) rfl ?_
  intro p e s m args below meth c s₁ B hml hv
  obtain ⟨rfl, hP, hK⟩ := hv
  have hx := B.exec
  have hb := B.bytes
  have hr := B.returns
  have hts := atoms_spec (ws := wsX0_best) B.pre
  have hown : s.vm.findClass RX0 = some m.cls := findClass_of_methodNamed B.named
  have hlocks := B.notSynchronized
  have hl := lv_entry ([.ref o]) (n := 1) (Nat.le_of_ble_eq_true rfl)
  rw [lg_entry_eq]
  generalize (lg_sl ([.ref o]) ++ List.replicate (1 - (lg_sl ([.ref o])).length) Slot.unset).toArray = ls at hl ⊢
  have hl : lv_has ls 1 [(0, .ref o)] := hl
  refine tk_Q (fun Q hQ => ?_)
  refine lv_aload_n hx hb dX0_best_0 rfl (lv_at hl 0 rfl) ?_
  refine vp_callSi (W.runV (As := []) (rest := []) ⟨hx, hb, hml, hown, hts⟩ (c0_bestBlock l dC dI o q ca aP aH aT aA aG aK aZ aS n wk hW hn hn1) (cwV 0 hts gX0_best_X0_bestBlock rfl rfl rfl (by decide +kernel) ⟨Nat.le_of_ble_eq_true rfl, Nat.le_of_ble_eq_true rfl⟩) (tk_pre hK hP rfl rfl) rfl rfl hl.1 rfl (lv_room (Nat.le_of_ble_eq_true rfl)) dX0_best_1 ⟨Nat.le_of_ble_eq_true rfl, Nat.le_of_ble_eq_true rfl⟩) (fun r hr1 => ?_)
  refine tk_top (y := nI (tk_best aZ aA wk n)) hr1 ?_
  subst hQ
  exact tk_iret hx hb hr hlocks rfl dX0_best_4
