set_option maxHeartbeats 4000000 in
set_option maxRecDepth 100000 in
theorem c1_fork (l : Launch) (dC : Nat → ClassId) (dI : Nat → Nat → Nat) (o : Nat) (q : Nat → Nat) (ca : Nat → ClassId) (aP aH aT aG : Nat → Int32) (aL : Nat → Int64) (aA aF aS : Nat → Int32) (n : Nat) (pa he : Nat → Nat) (hT : tk_I aP aH pa he n) (b1 b2 : Int32) : Met l yX1_fork wsX1_fork ({ frames := 1, cells := 0, slots := 0, locals := 21 }) (tk_R (dC, dI) (tk_w1 o q ca aP aH aT aG aL aA aF aS n) (tk_t1 ca) [.ref o, .int b1, .int b2]) (vp_Si (fun r => r = tk_fr pa he n b1 b2)) 0 0 (fun _ => False) := by
  refine Met.ofW (cc := cX1_fork) (maxL := 5) (ret := (some .int)) (by decide) rfl ?_
  intro p e s m args below meth c s₁ B hml hv
  obtain ⟨rfl, hP, hK⟩ := hv
  have hx := B.exec
  have hb := B.bytes
  have hr := B.returns
  have hts := atoms_spec (ws := wsX1_fork) B.pre
  have hown : s.vm.findClass RX1 = some m.cls := findClass_of_methodNamed B.named
  have hlocks := B.notSynchronized
  have hin0 : ∀ w ∈ u_ws RX1 TX1 9, w ∈ wsX1_fork := by decide +kernel
  have fl13 := hts (.fieldLink RX1 13 "WorkTreeModel" "height" "[I") (by decide +kernel)
  have fl9 := hts (.fieldLink RX1 9 "WorkTreeModel" "parent" "[I") (by decide +kernel)
  have hl := lv_entry ([.ref o, .int b1, .int b2]) (n := 5) (Nat.le_of_ble_eq_true rfl)
  rw [lg_entry_eq]
  generalize (lg_sl ([.ref o, .int b1, .int b2]) ++ List.replicate (5 - (lg_sl ([.ref o, .int b1, .int b2])).length) Slot.unset).toArray = ls at hl ⊢
  have hl : lv_has ls 5 [(0, .ref o), (1, .int b1), (2, .int b2)] := hl
  refine tk_Q (fun Q hQ => ?_)
  have hn := hT.1.2
  refine lv_aload_n hx hb dX1_fork_0 rfl (lv_at hl 0 rfl) ?_
  refine lv_iload_n hx hb dX1_fork_1 rfl (lv_at hl 1 rfl) ?_
  refine vp_callSi (W.runV (As := [.int b1]) (rest := []) ⟨hx, hb, hml, hown, hts⟩ (c1_is l dC dI o q ca aP aH aT aG aL aA aF aS n b1) (cwV 1 hts gX1_fork_X1_is rfl rfl rfl (by decide +kernel) ⟨Nat.le_of_ble_eq_true rfl, Nat.le_of_ble_eq_true rfl⟩) (tk_pre hK hP rfl rfl) rfl rfl hl.1 rfl (lv_room (Nat.le_of_ble_eq_true rfl)) dX1_fork_2 ⟨Nat.le_of_ble_eq_true rfl, Nat.le_of_ble_eq_true rfl⟩) (fun r hr1 => ?_)
  refine tk_top (y := tk_ex n b1) hr1 ?_
  refine lv_if_eq (tgt := 16) hx hb dX1_fork_5 (by decide) (fun hc5 => ?_) (fun hc5 => ?_)
  · refine lv_bipush (v := -2) hx hb dX1_fork_16 (by decide +kernel) ?_
    subst hQ
    exact tk_iret hx hb hr hlocks (tk_fr0 hc5).symm dX1_fork_18
  · obtain ⟨i, hi, rfl⟩ := tk_ex_t hn hc5
    refine lv_aload_n hx hb dX1_fork_8 rfl (lv_at hl 0 rfl) ?_
    refine lv_iload_n hx hb dX1_fork_9 rfl (lv_at hl 2 rfl) ?_
    refine vp_callSi (W.runV (As := [.int b2]) (rest := []) ⟨hx, hb, hml, hown, hts⟩ (c1_is l dC dI o q ca aP aH aT aG aL aA aF aS n b2) (cwV 1 hts gX1_fork_X1_is rfl rfl rfl (by decide +kernel) ⟨Nat.le_of_ble_eq_true rfl, Nat.le_of_ble_eq_true rfl⟩) (tk_pre hK hP rfl rfl) rfl rfl hl.1 rfl (lv_room (Nat.le_of_ble_eq_true rfl)) dX1_fork_10 ⟨Nat.le_of_ble_eq_true rfl, Nat.le_of_ble_eq_true rfl⟩) (fun r hr1 => ?_)
    refine tk_top (y := tk_ex n b2) hr1 ?_
    refine lv_if_ne (tgt := 19) hx hb dX1_fork_13 (by decide) (fun hc13 => ?_) (fun hc13 => ?_)
    · obtain ⟨j, hj, rfl⟩ := tk_ex_t hn hc13
      refine lv_iload_n hx hb dX1_fork_19 rfl (lv_at hl 1 rfl) ?_
      refine lv_istore_n hx hb dX1_fork_20 rfl hl (by decide) rfl (fun ls hl => ?_)
      have hl : lv_has ls 5 [(3, .int (nI i)), (0, .ref o), (1, .int (nI i)), (2, .int (nI j))] := hl
      refine lv_iload_n hx hb dX1_fork_21 rfl (lv_at hl 3 rfl) ?_
      refine lv_istore hx hb dX1_fork_22 hl (by decide) rfl (fun ls hl => ?_)
      have hl : lv_has ls 5 [(4, .int (nI j)), (3, .int (nI i)), (0, .ref o), (1, .int (nI i)), (2, .int (nI j))] := hl
      have hzz : nI (tk_fork pa he i j) = tk_fr pa he n (nI i) (nI j) := (tk_fr2 hn hi hj).symm
      generalize hzq : tk_fork pa he i j = z at hzz
      have loop : ∀ (k : Nat) (a b : Nat) (ls : Array Slot), a + b ≤ k → a < n → b < n → tk_fork pa he a b = z → lv_has ls 5 [(4, .int (nI b)), (3, .int (nI a)), (0, .ref o), (1, .int (nI i)), (2, .int (nI j))] → W p l e (headSpec wsX1_fork ({ frames := 1, cells := 0, slots := 0, locals := 21 })).room s m ([.ref o, .int (nI i), .int (nI j)] : List Value).toArray below meth c s.heap [] 0 0 Q (F0 m 24 ls []) := by
        intro k
        induction k with
        | zero =>
          intro a b ls hab ha hb0 hz hl
          have hha := (hT.2.2.2.1 a ha).2
          have hhb := (hT.2.2.2.1 b hb0).2
          refine lv_iload_n hx hb dX1_fork_24 rfl (lv_at hl 1 rfl) ?_
          refine lv_iload hx hb dX1_fork_25 (lv_at hl 0 rfl) ?_
          refine lv_icmp_eq (tgt := 68) hx hb dX1_fork_27 (by decide) (fun hc27 => ?_) (fun hc27 => ?_)
          · have e27 := (nI_eq (by omega) (by omega)).mp hc27
            refine lv_iload_n hx hb dX1_fork_68 rfl (lv_at hl 1 rfl) ?_
            subst hQ
            exact tk_iret hx hb hr hlocks (show nI a = _ from (congrArg nI ((show tk_fork pa he a b = a from by rw [← e27]; exact tk_fork_eq pa he a).symm.trans hz)).trans hzz) dX1_fork_69
          · exact absurd (congrArg nI (show a = b by omega)) hc27
        | succ k ih =>
          intro a b ls hab ha hb0 hz hl
          have hha := (hT.2.2.2.1 a ha).2
          have hhb := (hT.2.2.2.1 b hb0).2
          refine lv_iload_n hx hb dX1_fork_24 rfl (lv_at hl 1 rfl) ?_
          refine lv_iload hx hb dX1_fork_25 (lv_at hl 0 rfl) ?_
          refine lv_icmp_eq (tgt := 68) hx hb dX1_fork_27 (by decide) (fun hc27 => ?_) (fun hc27 => ?_)
          · have e27 := (nI_eq (by omega) (by omega)).mp hc27
            refine lv_iload_n hx hb dX1_fork_68 rfl (lv_at hl 1 rfl) ?_
            subst hQ
            exact tk_iret hx hb hr hlocks (show nI a = _ from (congrArg nI ((show tk_fork pa he a b = a from by rw [← e27]; exact tk_fork_eq pa he a).symm.trans hz)).trans hzz) dX1_fork_69
          · have e27 : ¬ a = b := fun z9 => hc27 (congrArg nI z9)
            refine lv_aload_n hx hb dX1_fork_30 rfl (lv_at hl 2 rfl) ?_
            refine va_get (D := (dC, dI)) (ci := 1) (v := .ref (q 1)) (C := RX1) (T := TX1) (N := 9) hx hb hts hin0 hown hK hP 0 rfl rfl 1 (by decide) fl13 (fun _ h9 => h9) rfl dX1_fork_31 ?_
            refine lv_iload_n hx hb dX1_fork_34 rfl (lv_at hl 1 rfl) ?_
            refine tk_rdi (v := nI (he a)) hx hb hK hP 2 1 rfl rfl (a) (by omega) (by decide) (hT.2.2.2.1 a ha).1 dX1_fork_35 ?_
            refine lv_aload_n hx hb dX1_fork_36 rfl (lv_at hl 2 rfl) ?_
            refine va_get (D := (dC, dI)) (ci := 1) (v := .ref (q 1)) (C := RX1) (T := TX1) (N := 9) hx hb hts hin0 hown hK hP 0 rfl rfl 1 (by decide) fl13 (fun _ h9 => h9) rfl dX1_fork_37 ?_
            refine lv_iload hx hb dX1_fork_40 (lv_at hl 0 rfl) ?_
            refine tk_rdi (v := nI (he b)) hx hb hK hP 2 1 rfl rfl (b) (by omega) (by decide) (hT.2.2.2.1 b hb0).1 dX1_fork_42 ?_
            refine lv_icmp_lt (tgt := 56) hx hb dX1_fork_43 (by decide) (fun hc43 => ?_) (fun hc43 => ?_)
            · have e43 := (nI_ltI (by omega) (by omega)).mp hc43
              obtain ⟨f1, f2⟩ := tk_fork_r hT hb0 e43
              obtain ⟨u2, u3, u4⟩ := hT.2.2.2.2 b f1 hb0
              refine lv_aload_n hx hb dX1_fork_56 rfl (lv_at hl 2 rfl) ?_
              refine va_get (D := (dC, dI)) (ci := 1) (v := .ref (q 0)) (C := RX1) (T := TX1) (N := 9) hx hb hts hin0 hown hK hP 0 rfl rfl 0 (by decide) fl9 (fun _ h9 => h9) rfl dX1_fork_57 ?_
              refine lv_iload hx hb dX1_fork_60 (lv_at hl 0 rfl) ?_
              refine tk_rdi (v := nI (pa b)) hx hb hK hP 1 0 rfl rfl (b) (by omega) (by decide) u2 dX1_fork_62 ?_
              refine lv_istore hx hb dX1_fork_63 hl (by decide) rfl (fun ls hl => ?_)
              have hl : lv_has ls 5 [(4, .int (nI (pa b))), (3, .int (nI a)), (0, .ref o), (1, .int (nI i)), (2, .int (nI j))] := hl
              refine lv_goto (tgt := 24) hx hb dX1_fork_65 (by decide) ?_
              exact ih a (pa b) ls (by omega) ha (by omega) (f2.trans hz) hl
            · have e43 : ¬ he a < he b := fun z9 => hc43 ((nI_ltI (by omega) (by omega)).mpr z9)
              obtain ⟨f1, f2⟩ := tk_fork_l hT ha hb0 e27 (by omega)
              obtain ⟨u2, u3, u4⟩ := hT.2.2.2.2 a f1 ha
              refine lv_aload_n hx hb dX1_fork_46 rfl (lv_at hl 2 rfl) ?_
              refine va_get (D := (dC, dI)) (ci := 1) (v := .ref (q 0)) (C := RX1) (T := TX1) (N := 9) hx hb hts hin0 hown hK hP 0 rfl rfl 0 (by decide) fl9 (fun _ h9 => h9) rfl dX1_fork_47 ?_
              refine lv_iload_n hx hb dX1_fork_50 rfl (lv_at hl 1 rfl) ?_
              refine tk_rdi (v := nI (pa a)) hx hb hK hP 1 0 rfl rfl (a) (by omega) (by decide) u2 dX1_fork_51 ?_
              refine lv_istore_n hx hb dX1_fork_52 rfl hl (by decide) rfl (fun ls hl => ?_)
              have hl : lv_has ls 5 [(3, .int (nI (pa a))), (4, .int (nI b)), (0, .ref o), (1, .int (nI i)), (2, .int (nI j))] := hl
              refine lv_goto (tgt := 24) hx hb dX1_fork_53 (by decide) ?_
              have hl : lv_has ls 5 [(4, .int (nI b)), (3, .int (nI (pa a))), (0, .ref o), (1, .int (nI i)), (2, .int (nI j))] := lv_sub hl [1, 0, 2, 3, 4] rfl
              exact ih (pa a) b ls (by omega) (by omega) hb0 (f2.trans hz) hl
      exact loop (i + j) i j ls (Nat.le_refl _) hi hj hzq hl
    · refine lv_bipush (v := -2) hx hb dX1_fork_16 (by decide +kernel) ?_
      subst hQ
      exact tk_iret hx hb hr hlocks (tk_fr1 hc13).symm dX1_fork_18
set_option maxHeartbeats 4000000 in
set_option maxRecDepth 100000 in
theorem c1_due (l : Launch) (dC : Nat → ClassId) (dI : Nat → Nat → Nat) (o : Nat) (q : Nat → Nat) (ca : Nat → ClassId) (aP aH aT aG : Nat → Int32) (aL : Nat → Int64) (aA aF aS : Nat → Int32) (n : Nat) (pa he : Nat → Nat) (hT : tk_I aP aH pa he n) (b : Int32) : Met l yX1_due wsX1_due ({ frames := 2, cells := 0, slots := 0, locals := 44 }) (tk_R (dC, dI) (tk_w1 o q ca aP aH aT aG aL aA aF aS n) (tk_t1 ca) [.ref o, .int b]) (vp_Si (fun r => r = tk_pb n b (tk_tb pa he aT aG))) 0 0 (fun _ => False) := by
  refine Met.ofW (cc := cX1_due) (maxL := 5) (ret := (some .int)) (by decide) rfl ?_
  intro p e s m args below meth c s₁ B hml hv
  obtain ⟨rfl, hP, hK⟩ := hv
  have hx := B.exec
  have hb := B.bytes
  have hr := B.returns
  have hts := atoms_spec (ws := wsX1_due) B.pre
  have hown : s.vm.findClass RX1 = some m.cls := findClass_of_methodNamed B.named
  have hlocks := B.notSynchronized
  have hin0 : ∀ w ∈ u_ws RX1 TX1 9, w ∈ wsX1_due := by decide +kernel
  have fl19 := hts (.fieldLink RX1 19 "WorkTreeModel" "target" "[I") (by decide +kernel)
  have fl13 := hts (.fieldLink RX1 13 "WorkTreeModel" "height" "[I") (by decide +kernel)
  have fl16 := hts (.fieldLink RX1 16 "WorkTreeModel" "time" "[I") (by decide +kernel)
  have kc64 := hts (.constant RX1 64 (65535)) (by decide +kernel)
  have hl := lv_entry ([.ref o, .int b]) (n := 5) (Nat.le_of_ble_eq_true rfl)
  rw [lg_entry_eq]
  generalize (lg_sl ([.ref o, .int b]) ++ List.replicate (5 - (lg_sl ([.ref o, .int b])).length) Slot.unset).toArray = ls at hl ⊢
  have hl : lv_has ls 5 [(0, .ref o), (1, .int b)] := hl
  refine tk_Q (fun Q hQ => ?_)
  have hn := hT.1.2
  refine lv_aload_n hx hb dX1_due_0 rfl (lv_at hl 0 rfl) ?_
  refine lv_iload_n hx hb dX1_due_1 rfl (lv_at hl 1 rfl) ?_
  refine vp_callSi (W.runV (As := [.int b]) (rest := []) ⟨hx, hb, hml, hown, hts⟩ (c1_is l dC dI o q ca aP aH aT aG aL aA aF aS n b) (cwV 1 hts gX1_due_X1_is rfl rfl rfl (by decide +kernel) ⟨Nat.le_of_ble_eq_true rfl, Nat.le_of_ble_eq_true rfl⟩) (tk_pre hK hP rfl rfl) rfl rfl hl.1 rfl (lv_room (Nat.le_of_ble_eq_true rfl)) dX1_due_2 ⟨Nat.le_of_ble_eq_true rfl, Nat.le_of_ble_eq_true rfl⟩) (fun r hr1 => ?_)
  refine tk_top (y := tk_ex n b) hr1 ?_
  refine lv_if_ne (tgt := 11) hx hb dX1_due_5 (by decide) (fun hc5 => ?_) (fun hc5 => ?_)
  · obtain ⟨j, hj, rfl⟩ := tk_ex_t hn hc5
    have hjj := (hT.2.2.2.1 j hj).2
    refine lv_aload_n hx hb dX1_due_11 rfl (lv_at hl 0 rfl) ?_
    refine va_get (D := (dC, dI)) (ci := 1) (v := .ref (q 3)) (C := RX1) (T := TX1) (N := 9) hx hb hts hin0 hown hK hP 0 rfl rfl 3 (by decide) fl19 (fun _ h9 => h9) rfl dX1_due_12 ?_
    refine lv_iload_n hx hb dX1_due_15 rfl (lv_at hl 1 rfl) ?_
    refine tk_rdi (v := aG j) hx hb hK hP 4 3 rfl rfl (j) (by omega) (by decide) rfl dX1_due_16 ?_
    refine lv_istore_n hx hb dX1_due_17 rfl hl (by decide) rfl (fun ls hl => ?_)
    have hl : lv_has ls 5 [(2, .int (aG j)), (0, .ref o), (1, .int (nI j))] := hl
    refine lv_aload_n hx hb dX1_due_18 rfl (lv_at hl 1 rfl) ?_
    refine va_get (D := (dC, dI)) (ci := 1) (v := .ref (q 1)) (C := RX1) (T := TX1) (N := 9) hx hb hts hin0 hown hK hP 0 rfl rfl 1 (by decide) fl13 (fun _ h9 => h9) rfl dX1_due_19 ?_
    refine lv_iload_n hx hb dX1_due_22 rfl (lv_at hl 2 rfl) ?_
    refine tk_rdi (v := nI (he j)) hx hb hK hP 2 1 rfl rfl (j) (by omega) (by decide) (hT.2.2.2.1 j hj).1 dX1_due_23 ?_
    refine lv_iconst (v := nI 1) hx hb dX1_due_24 (by decide +kernel) ?_
    refine lv_iadd hx hb dX1_due_25 ?_
    refine tk_top (y := nI (he j + 1)) (tk_add1 _) ?_
    refine lv_istore_n hx hb dX1_due_26 rfl hl (by decide) rfl (fun ls hl => ?_)
    have hl : lv_has ls 5 [(3, .int (nI (he j + 1))), (2, .int (aG j)), (0, .ref o), (1, .int (nI j))] := hl
    refine lv_iload_n hx hb dX1_due_27 rfl (lv_at hl 0 rfl) ?_
    refine lv_bipush (v := nI 8) hx hb dX1_due_28 (by decide +kernel) ?_
    refine lv_irem hx hb dX1_due_30 (by decide +kernel) ?_
    refine tk_top (y := nI ((he j + 1) % 8)) (pk_rem (by omega) (by decide) (by decide)) ?_
    refine lv_if_eq (tgt := 36) hx hb dX1_due_31 (by decide) (fun hc31 => ?_) (fun hc31 => ?_)
    · have e31 := (tk_eq0 (by omega)).mp hc31
      obtain ⟨an1, an2⟩ := tk_anc_in hT 7 j hj (by omega)
      refine lv_aload_n hx hb dX1_due_36 rfl (lv_at hl 2 rfl) ?_
      refine va_get (D := (dC, dI)) (ci := 1) (v := .ref (q 2)) (C := RX1) (T := TX1) (N := 9) hx hb hts hin0 hown hK hP 0 rfl rfl 2 (by decide) fl16 (fun _ h9 => h9) rfl dX1_due_37 ?_
      refine lv_iload_n hx hb dX1_due_40 rfl (lv_at hl 3 rfl) ?_
      refine tk_rdi (v := aT j) hx hb hK hP 3 2 rfl rfl (j) (by omega) (by decide) rfl dX1_due_41 ?_
      refine lv_aload_n hx hb dX1_due_42 rfl (lv_at hl 2 rfl) ?_
      refine va_get (D := (dC, dI)) (ci := 1) (v := .ref (q 2)) (C := RX1) (T := TX1) (N := 9) hx hb hts hin0 hown hK hP 0 rfl rfl 2 (by decide) fl16 (fun _ h9 => h9) rfl dX1_due_43 ?_
      refine lv_aload_n hx hb dX1_due_46 rfl (lv_at hl 2 rfl) ?_
      refine lv_iload_n hx hb dX1_due_47 rfl (lv_at hl 3 rfl) ?_
      refine lv_iload_n hx hb dX1_due_48 rfl (lv_at hl 0 rfl) ?_
      refine lv_bipush (v := nI 8) hx hb dX1_due_49 (by decide +kernel) ?_
      refine lv_isub hx hb dX1_due_51 ?_
      refine tk_top (y := nI (he j + 1 - 8)) (pk_sub (by omega)) ?_
      refine vp_callSi (W.runV (As := [.int (nI j), .int (nI (he j + 1 - 8))]) (rest := [.ref (q 2), .int (aT j)]) ⟨hx, hb, hml, hown, hts⟩ (c1_ancestor l dC dI o q ca aP aH aT aG aL aA aF aS n pa he hT (nI j) (nI (he j + 1 - 8))) (cwV 2 hts gX1_due_X1_ancestor rfl rfl rfl (by decide +kernel) ⟨Nat.le_of_ble_eq_true rfl, Nat.le_of_ble_eq_true rfl⟩) (tk_pre hK hP rfl rfl) rfl rfl hl.1 rfl (lv_room (Nat.le_of_ble_eq_true rfl)) dX1_due_52 ⟨Nat.le_of_ble_eq_true rfl, Nat.le_of_ble_eq_true rfl⟩) (fun r hr1 => ?_)
      refine tk_top (y := tk_an pa he n (nI j) (nI (he j + 1 - 8))) hr1 ?_
      refine tk_top (y := nI (tk_anc pa 7 j)) (by rw [tk_an3 hn hj (by omega) (by omega), show he j - (he j + 1 - 8) = 7 by omega]) ?_
      refine tk_rdi (v := aT (tk_anc pa 7 j)) hx hb hK hP 3 2 rfl rfl (tk_anc pa 7 j) (by omega) (by decide) rfl dX1_due_55 ?_
      refine lv_isub hx hb dX1_due_56 ?_
      refine lv_istore hx hb dX1_due_57 hl (by decide) rfl (fun ls hl => ?_)
      have hl : lv_has ls 5 [(4, .int ((aT j) - (aT (tk_anc pa 7 j)))), (3, .int (nI (he j + 1))), (2, .int (aG j)), (0, .ref o), (1, .int (nI j))] := hl
      refine lv_iload hx hb dX1_due_59 (lv_at hl 0 rfl) ?_
      refine lv_bipush (v := nI 20) hx hb dX1_due_61 (by decide +kernel) ?_
      refine lv_icmp_ge (tgt := 70) hx hb dX1_due_63 (by decide) (fun hc63 => ?_) (fun hc63 => ?_)
      · refine lv_iload hx hb dX1_due_70 (lv_at hl 0 rfl) ?_
        refine lv_sipush (v := nI 320) hx hb dX1_due_72 (by decide +kernel) ?_
        refine lv_icmp_le (tgt := 83) hx hb dX1_due_75 (by decide) (fun hc75 => ?_) (fun hc75 => ?_)
        · have hsp := tk_wi_m hc63 hc75
          refine lv_iload_n hx hb dX1_due_83 rfl (lv_at hl 2 rfl) ?_
          refine lv_iload hx hb dX1_due_84 (lv_at hl 0 rfl) ?_
          refine lv_imul hx hb dX1_due_86 ?_
          refine lv_bipush (v := nI 80) hx hb dX1_due_87 (by decide +kernel) ?_
          refine lv_idiv hx hb dX1_due_89 (by decide +kernel) ?_
          refine lv_istore_n hx hb dX1_due_90 rfl hl (by decide) rfl (fun ls hl => ?_)
          have hl : lv_has ls 5 [(2, .int (((aG j) * ((aT j) - (aT (tk_anc pa 7 j)))) / (nI 80))), (4, .int ((aT j) - (aT (tk_anc pa 7 j)))), (3, .int (nI (he j + 1))), (0, .ref o), (1, .int (nI j))] := hl
          refine lv_iload_n hx hb dX1_due_91 rfl (lv_at hl 0 rfl) ?_
          refine lv_sipush (v := nI 2048) hx hb dX1_due_92 (by decide +kernel) ?_
          refine lv_icmp_ge (tgt := 104) hx hb dX1_due_95 (by decide) (fun hc95 => ?_) (fun hc95 => ?_)
          · refine lv_iload_n hx hb dX1_due_104 rfl (lv_at hl 0 rfl) ?_
            refine lv_ldc (v := 65535) hx hb hown kc64 dX1_due_105 ?_
            refine tk_top (y := nI 65535) (by decide +kernel) ?_
            refine lv_icmp_le (tgt := 115) hx hb dX1_due_107 (by decide) (fun hc107 => ?_) (fun hc107 => ?_)
            · refine lv_iload_n hx hb dX1_due_115 rfl (lv_at hl 0 rfl) ?_
              subst hQ
              exact tk_iret hx hb hr hlocks (show ((aG j) * ((aT j) - (aT (tk_anc pa 7 j)))) / (nI 80) = tk_pb n (nI j) (tk_tb pa he aT aG) from by rw [tk_pbn hn hj]; unfold tk_tb; rw [if_pos e31, hsp, tk_wi_m hc95 hc107]) dX1_due_116
            · refine lv_ldc (v := 65535) hx hb hown kc64 dX1_due_110 ?_
              refine tk_top (y := nI 65535) (by decide +kernel) ?_
              refine lv_goto (tgt := 116) hx hb dX1_due_112 (by decide) ?_
              subst hQ
              exact tk_iret hx hb hr hlocks (show nI 65535 = tk_pb n (nI j) (tk_tb pa he aT aG) from by rw [tk_pbn hn hj]; unfold tk_tb; rw [if_pos e31, hsp, tk_wi_h (by decide +kernel) hc107]) dX1_due_116
          · refine lv_sipush (v := nI 2048) hx hb dX1_due_98 (by decide +kernel) ?_
            refine lv_goto (tgt := 116) hx hb dX1_due_101 (by decide) ?_
            subst hQ
            exact tk_iret hx hb hr hlocks (show nI 2048 = tk_pb n (nI j) (tk_tb pa he aT aG) from by rw [tk_pbn hn hj]; unfold tk_tb; rw [if_pos e31, hsp, tk_wi_l (by decide +kernel) hc95]) dX1_due_116
        · refine lv_sipush (v := nI 320) hx hb dX1_due_78 (by decide +kernel) ?_
          refine lv_istore hx hb dX1_due_81 hl (by decide) rfl (fun ls hl => ?_)
          have hl : lv_has ls 5 [(4, .int (nI 320)), (3, .int (nI (he j + 1))), (2, .int (aG j)), (0, .ref o), (1, .int (nI j))] := hl
          have hsp := tk_wi_h (lo := nI 20) (by decide +kernel) hc75
          refine lv_iload_n hx hb dX1_due_83 rfl (lv_at hl 2 rfl) ?_
          refine lv_iload hx hb dX1_due_84 (lv_at hl 0 rfl) ?_
          refine lv_imul hx hb dX1_due_86 ?_
          refine lv_bipush (v := nI 80) hx hb dX1_due_87 (by decide +kernel) ?_
          refine lv_idiv hx hb dX1_due_89 (by decide +kernel) ?_
          refine lv_istore_n hx hb dX1_due_90 rfl hl (by decide) rfl (fun ls hl => ?_)
          have hl : lv_has ls 5 [(2, .int (((aG j) * (nI 320)) / (nI 80))), (4, .int (nI 320)), (3, .int (nI (he j + 1))), (0, .ref o), (1, .int (nI j))] := hl
          refine lv_iload_n hx hb dX1_due_91 rfl (lv_at hl 0 rfl) ?_
          refine lv_sipush (v := nI 2048) hx hb dX1_due_92 (by decide +kernel) ?_
          refine lv_icmp_ge (tgt := 104) hx hb dX1_due_95 (by decide) (fun hc95 => ?_) (fun hc95 => ?_)
          · refine lv_iload_n hx hb dX1_due_104 rfl (lv_at hl 0 rfl) ?_
            refine lv_ldc (v := 65535) hx hb hown kc64 dX1_due_105 ?_
            refine tk_top (y := nI 65535) (by decide +kernel) ?_
            refine lv_icmp_le (tgt := 115) hx hb dX1_due_107 (by decide) (fun hc107 => ?_) (fun hc107 => ?_)
            · refine lv_iload_n hx hb dX1_due_115 rfl (lv_at hl 0 rfl) ?_
              subst hQ
              exact tk_iret hx hb hr hlocks (show ((aG j) * (nI 320)) / (nI 80) = tk_pb n (nI j) (tk_tb pa he aT aG) from by rw [tk_pbn hn hj]; unfold tk_tb; rw [if_pos e31, hsp, tk_wi_m hc95 hc107]) dX1_due_116
            · refine lv_ldc (v := 65535) hx hb hown kc64 dX1_due_110 ?_
              refine tk_top (y := nI 65535) (by decide +kernel) ?_
              refine lv_goto (tgt := 116) hx hb dX1_due_112 (by decide) ?_
              subst hQ
              exact tk_iret hx hb hr hlocks (show nI 65535 = tk_pb n (nI j) (tk_tb pa he aT aG) from by rw [tk_pbn hn hj]; unfold tk_tb; rw [if_pos e31, hsp, tk_wi_h (by decide +kernel) hc107]) dX1_due_116
          · refine lv_sipush (v := nI 2048) hx hb dX1_due_98 (by decide +kernel) ?_
            refine lv_goto (tgt := 116) hx hb dX1_due_101 (by decide) ?_
            subst hQ
            exact tk_iret hx hb hr hlocks (show nI 2048 = tk_pb n (nI j) (tk_tb pa he aT aG) from by rw [tk_pbn hn hj]; unfold tk_tb; rw [if_pos e31, hsp, tk_wi_l (by decide +kernel) hc95]) dX1_due_116
      · refine lv_bipush (v := nI 20) hx hb dX1_due_66 (by decide +kernel) ?_
        refine lv_istore hx hb dX1_due_68 hl (by decide) rfl (fun ls hl => ?_)
        have hl : lv_has ls 5 [(4, .int (nI 20)), (3, .int (nI (he j + 1))), (2, .int (aG j)), (0, .ref o), (1, .int (nI j))] := hl
        refine lv_iload hx hb dX1_due_70 (lv_at hl 0 rfl) ?_
        refine lv_sipush (v := nI 320) hx hb dX1_due_72 (by decide +kernel) ?_
        refine lv_icmp_le (tgt := 83) hx hb dX1_due_75 (by decide) (fun hc75 => ?_) (fun hc75 => ?_)
        · have hsp := tk_wi_l (hi := nI 320) (by decide +kernel) hc63
          refine lv_iload_n hx hb dX1_due_83 rfl (lv_at hl 2 rfl) ?_
          refine lv_iload hx hb dX1_due_84 (lv_at hl 0 rfl) ?_
          refine lv_imul hx hb dX1_due_86 ?_
          refine lv_bipush (v := nI 80) hx hb dX1_due_87 (by decide +kernel) ?_
          refine lv_idiv hx hb dX1_due_89 (by decide +kernel) ?_
          refine lv_istore_n hx hb dX1_due_90 rfl hl (by decide) rfl (fun ls hl => ?_)
          have hl : lv_has ls 5 [(2, .int (((aG j) * (nI 20)) / (nI 80))), (4, .int (nI 20)), (3, .int (nI (he j + 1))), (0, .ref o), (1, .int (nI j))] := hl
          refine lv_iload_n hx hb dX1_due_91 rfl (lv_at hl 0 rfl) ?_
          refine lv_sipush (v := nI 2048) hx hb dX1_due_92 (by decide +kernel) ?_
          refine lv_icmp_ge (tgt := 104) hx hb dX1_due_95 (by decide) (fun hc95 => ?_) (fun hc95 => ?_)
          · refine lv_iload_n hx hb dX1_due_104 rfl (lv_at hl 0 rfl) ?_
            refine lv_ldc (v := 65535) hx hb hown kc64 dX1_due_105 ?_
            refine tk_top (y := nI 65535) (by decide +kernel) ?_
            refine lv_icmp_le (tgt := 115) hx hb dX1_due_107 (by decide) (fun hc107 => ?_) (fun hc107 => ?_)
            · refine lv_iload_n hx hb dX1_due_115 rfl (lv_at hl 0 rfl) ?_
              subst hQ
              exact tk_iret hx hb hr hlocks (show ((aG j) * (nI 20)) / (nI 80) = tk_pb n (nI j) (tk_tb pa he aT aG) from by rw [tk_pbn hn hj]; unfold tk_tb; rw [if_pos e31, hsp, tk_wi_m hc95 hc107]) dX1_due_116
            · refine lv_ldc (v := 65535) hx hb hown kc64 dX1_due_110 ?_
              refine tk_top (y := nI 65535) (by decide +kernel) ?_
              refine lv_goto (tgt := 116) hx hb dX1_due_112 (by decide) ?_
              subst hQ
              exact tk_iret hx hb hr hlocks (show nI 65535 = tk_pb n (nI j) (tk_tb pa he aT aG) from by rw [tk_pbn hn hj]; unfold tk_tb; rw [if_pos e31, hsp, tk_wi_h (by decide +kernel) hc107]) dX1_due_116
          · refine lv_sipush (v := nI 2048) hx hb dX1_due_98 (by decide +kernel) ?_
            refine lv_goto (tgt := 116) hx hb dX1_due_101 (by decide) ?_
            subst hQ
            exact tk_iret hx hb hr hlocks (show nI 2048 = tk_pb n (nI j) (tk_tb pa he aT aG) from by rw [tk_pbn hn hj]; unfold tk_tb; rw [if_pos e31, hsp, tk_wi_l (by decide +kernel) hc95]) dX1_due_116
        · exact absurd (by decide +kernel) hc75
    · have e31 : ¬ (he j + 1) % 8 = 0 := fun z => hc31 ((tk_eq0 (by omega)).mpr z)
      refine lv_iload_n hx hb dX1_due_34 rfl (lv_at hl 1 rfl) ?_
      subst hQ
      exact tk_iret hx hb hr hlocks (show aG j = tk_pb n (nI j) (tk_tb pa he aT aG) from by rw [tk_pbn hn hj]; unfold tk_tb; rw [if_neg e31]) dX1_due_35
  · refine lv_bipush (v := -2) hx hb dX1_due_8 (by decide +kernel) ?_
    subst hQ
    exact tk_iret hx hb hr hlocks (tk_pb0 hc5).symm dX1_due_10
set_option maxHeartbeats 4000000 in
set_option maxRecDepth 100000 in
theorem c1_look (l : Launch) (dC : Nat → ClassId) (dI : Nat → Nat → Nat) (o : Nat) (q : Nat → Nat) (ca : Nat → ClassId) (aP aH aT aG : Nat → Int32) (aL : Nat → Int64) (aA aF aS : Nat → Int32) (n : Nat) (pa he : Nat → Nat) (hT : tk_I aP aH pa he n) (aK aZ : Nat → Int32) (hZ : tk_wI pa aF aZ n) (hL : ∀ i, i < n → aL i = (aK i).toInt64) (b w : Int32) : Met l yX1_look wsX1_look ({ frames := 1, cells := 0, slots := 0, locals := 23 }) (tk_R (dC, dI) (tk_w1 o q ca aP aH aT aG aL aA aF aS n) (tk_t1 ca) [.ref o, .int b, .int w]) (vp_Sl (fun r => r = tk_lk aH aP aT aG aK aZ n b w)) 0 0 (fun _ => False) := by
  refine Met.ofW (cc := cX1_look) (maxL := 3) (ret := (some .long)) (by decide) rfl ?_
  intro p e s m args below meth c s₁ B hml hv
  obtain ⟨rfl, hP, hK⟩ := hv
  have hx := B.exec
  have hb := B.bytes
  have hr := B.returns
  have hts := atoms_spec (ws := wsX1_look) B.pre
  have hown : s.vm.findClass RX1 = some m.cls := findClass_of_methodNamed B.named
  have hlocks := B.notSynchronized
  have hin0 : ∀ w ∈ u_ws RX1 TX1 9, w ∈ wsX1_look := by decide +kernel
  have kl65 := hts (.constantLong RX1 65 (-1)) (by decide +kernel)
  have kl67 := hts (.constantLong RX1 67 (-2)) (by decide +kernel)
  have fl13 := hts (.fieldLink RX1 13 "WorkTreeModel" "height" "[I") (by decide +kernel)
  have fl9 := hts (.fieldLink RX1 9 "WorkTreeModel" "parent" "[I") (by decide +kernel)
  have fl16 := hts (.fieldLink RX1 16 "WorkTreeModel" "time" "[I") (by decide +kernel)
  have fl19 := hts (.fieldLink RX1 19 "WorkTreeModel" "target" "[I") (by decide +kernel)
  have fl22 := hts (.fieldLink RX1 22 "WorkTreeModel" "work" "[J") (by decide +kernel)
  have hl := lv_entry ([.ref o, .int b, .int w]) (n := 3) (Nat.le_of_ble_eq_true rfl)
  rw [lg_entry_eq]
  generalize (lg_sl ([.ref o, .int b, .int w]) ++ List.replicate (3 - (lg_sl ([.ref o, .int b, .int w])).length) Slot.unset).toArray = ls at hl ⊢
  have hl : lv_has ls 3 [(0, .ref o), (1, .int b), (2, .int w)] := hl
  refine tk_Q (fun Q hQ => ?_)
  have hn := hT.1.2
  refine lv_iload_n hx hb dX1_look_0 rfl (lv_at hl 2 rfl) ?_
  refine lv_if_lt (tgt := 9) hx hb dX1_look_1 (by decide) (fun hc1 => ?_) (fun hc1 => ?_)
  · refine lv_ldc2 (v := -1) hx hb hown kl65 dX1_look_9 ?_
    subst hQ
    exact tk_lret hx hb hr hlocks (tk_lk_a hc1).symm dX1_look_12
  · refine lv_iload_n hx hb dX1_look_4 rfl (lv_at hl 2 rfl) ?_
    refine lv_iconst (v := nI 5) hx hb dX1_look_5 (by decide +kernel) ?_
    refine lv_icmp_le (tgt := 13) hx hb dX1_look_6 (by decide) (fun hc6 => ?_) (fun hc6 => ?_)
    · refine lv_aload_n hx hb dX1_look_13 rfl (lv_at hl 0 rfl) ?_
      refine lv_iload_n hx hb dX1_look_14 rfl (lv_at hl 1 rfl) ?_
      refine vp_callSi (W.runV (As := [.int b]) (rest := []) ⟨hx, hb, hml, hown, hts⟩ (c1_is l dC dI o q ca aP aH aT aG aL aA aF aS n b) (cwV 1 hts gX1_look_X1_is rfl rfl rfl (by decide +kernel) ⟨Nat.le_of_ble_eq_true rfl, Nat.le_of_ble_eq_true rfl⟩) (tk_pre hK hP rfl rfl) rfl rfl hl.1 rfl (lv_room (Nat.le_of_ble_eq_true rfl)) dX1_look_15 ⟨Nat.le_of_ble_eq_true rfl, Nat.le_of_ble_eq_true rfl⟩) (fun r hr1 => ?_)
      refine tk_top (y := tk_ex n b) hr1 ?_
      refine lv_if_ne (tgt := 25) hx hb dX1_look_18 (by decide) (fun hc18 => ?_) (fun hc18 => ?_)
      · obtain ⟨j, hj, rfl⟩ := tk_ex_t hn hc18
        obtain ⟨k, hk, rfl⟩ := nI_of hc1
        refine lv_iload_n hx hb dX1_look_25 rfl (lv_at hl 2 rfl) ?_
        have e6 : k ≤ 5 := (nI_leI (by omega) (by decide)).mp hc6
        rcases (show k = 0 ∨ k = 1 ∨ k = 2 ∨ k = 3 ∨ k = 4 ∨ k = 5 by omega) with rfl | rfl | rfl | rfl | rfl | rfl
        · refine lv_tableIn (tgt := 60) (off := 34) hx hb dX1_look_26 (by decide +kernel) (by decide +kernel) (by decide +kernel) (by decide) ?_
          refine lv_aload_n hx hb dX1_look_60 rfl (lv_at hl 0 rfl) ?_
          refine va_get (D := (dC, dI)) (ci := 1) (v := .ref (q 1)) (C := RX1) (T := TX1) (N := 9) hx hb hts hin0 hown hK hP 0 rfl rfl 1 (by decide) fl13 (fun _ h9 => h9) rfl dX1_look_61 ?_
          refine lv_iload_n hx hb dX1_look_64 rfl (lv_at hl 1 rfl) ?_
          refine tk_rdi (v := aH j) hx hb hK hP 2 1 rfl rfl (j) (by omega) (by decide) rfl dX1_look_65 ?_
          refine lv_i2l (v := (aH j).toInt64) hx hb dX1_look_66 rfl ?_
          subst hQ
          exact tk_lret hx hb hr hlocks (tk_lk_0 hn hj).symm dX1_look_67
        · refine lv_tableIn (tgt := 68) (off := 42) hx hb dX1_look_26 (by decide +kernel) (by decide +kernel) (by decide +kernel) (by decide) ?_
          refine lv_aload_n hx hb dX1_look_68 rfl (lv_at hl 0 rfl) ?_
          refine va_get (D := (dC, dI)) (ci := 1) (v := .ref (q 0)) (C := RX1) (T := TX1) (N := 9) hx hb hts hin0 hown hK hP 0 rfl rfl 0 (by decide) fl9 (fun _ h9 => h9) rfl dX1_look_69 ?_
          refine lv_iload_n hx hb dX1_look_72 rfl (lv_at hl 1 rfl) ?_
          refine tk_rdi (v := aP j) hx hb hK hP 1 0 rfl rfl (j) (by omega) (by decide) rfl dX1_look_73 ?_
          refine lv_i2l (v := (aP j).toInt64) hx hb dX1_look_74 rfl ?_
          subst hQ
          exact tk_lret hx hb hr hlocks (tk_lk_1 hn hj).symm dX1_look_75
        · refine lv_tableIn (tgt := 76) (off := 50) hx hb dX1_look_26 (by decide +kernel) (by decide +kernel) (by decide +kernel) (by decide) ?_
          refine lv_aload_n hx hb dX1_look_76 rfl (lv_at hl 0 rfl) ?_
          refine va_get (D := (dC, dI)) (ci := 1) (v := .ref (q 2)) (C := RX1) (T := TX1) (N := 9) hx hb hts hin0 hown hK hP 0 rfl rfl 2 (by decide) fl16 (fun _ h9 => h9) rfl dX1_look_77 ?_
          refine lv_iload_n hx hb dX1_look_80 rfl (lv_at hl 1 rfl) ?_
          refine tk_rdi (v := aT j) hx hb hK hP 3 2 rfl rfl (j) (by omega) (by decide) rfl dX1_look_81 ?_
          refine lv_i2l (v := (aT j).toInt64) hx hb dX1_look_82 rfl ?_
          subst hQ
          exact tk_lret hx hb hr hlocks (tk_lk_2 hn hj).symm dX1_look_83
        · refine lv_tableIn (tgt := 84) (off := 58) hx hb dX1_look_26 (by decide +kernel) (by decide +kernel) (by decide +kernel) (by decide) ?_
          refine lv_aload_n hx hb dX1_look_84 rfl (lv_at hl 0 rfl) ?_
          refine va_get (D := (dC, dI)) (ci := 1) (v := .ref (q 3)) (C := RX1) (T := TX1) (N := 9) hx hb hts hin0 hown hK hP 0 rfl rfl 3 (by decide) fl19 (fun _ h9 => h9) rfl dX1_look_85 ?_
          refine lv_iload_n hx hb dX1_look_88 rfl (lv_at hl 1 rfl) ?_
          refine tk_rdi (v := aG j) hx hb hK hP 4 3 rfl rfl (j) (by omega) (by decide) rfl dX1_look_89 ?_
          refine lv_i2l (v := (aG j).toInt64) hx hb dX1_look_90 rfl ?_
          subst hQ
          exact tk_lret hx hb hr hlocks (tk_lk_3 hn hj).symm dX1_look_91
        · refine lv_tableIn (tgt := 92) (off := 66) hx hb dX1_look_26 (by decide +kernel) (by decide +kernel) (by decide +kernel) (by decide) ?_
          refine lv_aload_n hx hb dX1_look_92 rfl (lv_at hl 0 rfl) ?_
          refine va_get (D := (dC, dI)) (ci := 1) (v := .ref (q 4)) (C := RX1) (T := TX1) (N := 9) hx hb hts hin0 hown hK hP 0 rfl rfl 4 (by decide) fl22 (fun _ h9 => h9) rfl dX1_look_93 ?_
          refine lv_iload_n hx hb dX1_look_96 rfl (lv_at hl 1 rfl) ?_
          refine tk_rdl (v := (aK j).toInt64) hx hb hK hP 5 4 rfl rfl (j) (by omega) (by decide) (hL j hj) dX1_look_97 ?_
          subst hQ
          exact tk_lret hx hb hr hlocks (tk_lk_4 hn hj).symm dX1_look_98
        · refine lv_tableOut (tgt := 99) hx hb dX1_look_26 (by decide +kernel) (by decide) ?_
          refine lv_aload_n hx hb dX1_look_99 rfl (lv_at hl 0 rfl) ?_
          refine lv_iload_n hx hb dX1_look_100 rfl (lv_at hl 1 rfl) ?_
          refine vp_callSi (W.runV (As := [.int (nI j)]) (rest := []) ⟨hx, hb, hml, hown, hts⟩ (c1_wrong l dC dI o q ca aP aH aT aG aL aA aF aS n pa he hT aZ hZ j hj) (cwV 1 hts gX1_look_X1_wrong rfl rfl rfl (by decide +kernel) ⟨Nat.le_of_ble_eq_true rfl, Nat.le_of_ble_eq_true rfl⟩) (tk_pre hK hP rfl rfl) rfl rfl hl.1 rfl (lv_room (Nat.le_of_ble_eq_true rfl)) dX1_look_101 ⟨Nat.le_of_ble_eq_true rfl, Nat.le_of_ble_eq_true rfl⟩) (fun r hr1 => ?_)
          refine tk_top (y := aZ j) hr1 ?_
          refine lv_if_eq (tgt := 111) hx hb dX1_look_104 (by decide) (fun hc104 => ?_) (fun hc104 => ?_)
          · refine lv_lconst (v := 0) hx hb dX1_look_111 (by decide +kernel) ?_
            subst hQ
            exact tk_lret hx hb hr hlocks (tk_lk_5 hn hj hc104).symm dX1_look_112
          · refine lv_lconst (v := 1) hx hb dX1_look_107 (by decide +kernel) ?_
            refine lv_goto (tgt := 112) hx hb dX1_look_108 (by decide) ?_
            subst hQ
            exact tk_lret hx hb hr hlocks (tk_lk_6 hn hj hc104).symm dX1_look_112
      · refine lv_ldc2 (v := -2) hx hb hown kl67 dX1_look_21 ?_
        subst hQ
        exact tk_lret hx hb hr hlocks (tk_lk_c hc1 hc6 hc18).symm dX1_look_24
    · refine lv_ldc2 (v := -1) hx hb hown kl65 dX1_look_9 ?_
      subst hQ
      exact tk_lret hx hb hr hlocks (tk_lk_b hc1 hc6).symm dX1_look_12
