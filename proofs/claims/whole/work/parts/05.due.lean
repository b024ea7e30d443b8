set_option maxHeartbeats 4000000 in
set_option maxRecDepth 100000 in
theorem c0_targetBehind (l : Launch) (dC : Nat → ClassId) (dI : Nat → Nat → Nat) (o : Nat) (q : Nat → Nat) (ca : Nat → ClassId) (aP aH aT aA aG aK aZ aS : Nat → Int32) (n : Nat) (pa he : Nat → Nat) (hT : tk_I aP aH pa he n) (j : Nat) (hj : j < n) : Met l yX0_targetBehind wsX0_targetBehind ({ frames := 2, cells := 0, slots := 0, locals := 36 }) (tk_R (dC, dI) (tk_w0 o q ca aP aH aT aA aG aK aZ aS n) (tk_t0 ca) [.ref o, .int (nI j)]) (vp_Si (fun r => r = tk_tb pa he aT aG j)) 0 0 (fun _ => False) := by
  refine Met.ofW (cc := cX0_targetBehind) (maxL := 5) (ret := (some .int)) (by decide) rfl ?_
  intro p e s m args below meth c s₁ B hml hv
  obtain ⟨rfl, hP, hK⟩ := hv
  have hx := B.exec
  have hb := B.bytes
  have hr := B.returns
  have hts := atoms_spec (ws := wsX0_targetBehind) B.pre
  have hown : s.vm.findClass RX0 = some m.cls := findClass_of_methodNamed B.named
  have hlocks := B.notSynchronized
  have hin0 : ∀ w ∈ u_ws RX0 TX0 9, w ∈ wsX0_targetBehind := by decide +kernel
  have fl13 := hts (.fieldLink RX0 13 "WorkTree" "heights" "[I") (by decide +kernel)
  have fl22 := hts (.fieldLink RX0 22 "WorkTree" "targets" "[I") (by decide +kernel)
  have fl16 := hts (.fieldLink RX0 16 "WorkTree" "times" "[I") (by decide +kernel)
  have kc77 := hts (.constant RX0 77 (65535)) (by decide +kernel)
  have hl := lv_entry ([.ref o, .int (nI j)]) (n := 5) (Nat.le_of_ble_eq_true rfl)
  rw [lg_entry_eq]
  generalize (lg_sl ([.ref o, .int (nI j)]) ++ List.replicate (5 - (lg_sl ([.ref o, .int (nI j)])).length) Slot.unset).toArray = ls at hl ⊢
  have hl : lv_has ls 5 [(0, .ref o), (1, .int (nI j))] := hl
  refine tk_Q (fun Q hQ => ?_)
  have hn := hT.1.2
  have hjj := (hT.2.2.2.1 j hj).2
  refine lv_aload_n hx hb dX0_targetBehind_0 rfl (lv_at hl 0 rfl) ?_
  refine va_get (D := (dC, dI)) (ci := 0) (v := .ref (q 1)) (C := RX0) (T := TX0) (N := 9) hx hb hts hin0 hown hK hP 0 rfl rfl 1 (by decide) fl13 (fun _ h9 => h9) rfl dX0_targetBehind_1 ?_
  refine lv_iload_n hx hb dX0_targetBehind_4 rfl (lv_at hl 1 rfl) ?_
  refine tk_rdi (v := nI (he j)) hx hb hK hP 2 1 rfl rfl (j) (by omega) (by decide) (hT.2.2.2.1 j hj).1 dX0_targetBehind_5 ?_
  refine lv_iconst (v := nI 1) hx hb dX0_targetBehind_6 (by decide +kernel) ?_
  refine lv_iadd hx hb dX0_targetBehind_7 ?_
  refine tk_top (y := nI (he j + 1)) (tk_add1 _) ?_
  refine lv_istore_n hx hb dX0_targetBehind_8 rfl hl (by decide) rfl (fun ls hl => ?_)
  have hl : lv_has ls 5 [(2, .int (nI (he j + 1))), (0, .ref o), (1, .int (nI j))] := hl
  refine lv_iload_n hx hb dX0_targetBehind_9 rfl (lv_at hl 0 rfl) ?_
  refine lv_bipush (v := nI 8) hx hb dX0_targetBehind_10 (by decide +kernel) ?_
  refine lv_irem hx hb dX0_targetBehind_12 (by decide +kernel) ?_
  refine tk_top (y := nI ((he j + 1) % 8)) (pk_rem (by omega) (by decide) (by decide)) ?_
  refine lv_if_eq (tgt := 23) hx hb dX0_targetBehind_13 (by decide) (fun hc13 => ?_) (fun hc13 => ?_)
  · have e13 := (tk_eq0 (by omega)).mp hc13
    obtain ⟨an1, an2⟩ := tk_anc_in hT 7 j hj (by omega)
    refine lv_aload_n hx hb dX0_targetBehind_23 rfl (lv_at hl 1 rfl) ?_
    refine lv_iload_n hx hb dX0_targetBehind_24 rfl (lv_at hl 2 rfl) ?_
    refine lv_iload_n hx hb dX0_targetBehind_25 rfl (lv_at hl 0 rfl) ?_
    refine lv_bipush (v := nI 8) hx hb dX0_targetBehind_26 (by decide +kernel) ?_
    refine lv_isub hx hb dX0_targetBehind_28 ?_
    refine tk_top (y := nI (he j + 1 - 8)) (pk_sub (by omega)) ?_
    refine vp_callSi (W.runV (As := [.int (nI j), .int (nI (he j + 1 - 8))]) (rest := []) ⟨hx, hb, hml, hown, hts⟩ (c0_ancestorAt l dC dI o q ca aP aH aT aA aG aK aZ aS n pa he hT j 7 (he j + 1 - 8) hj (by omega)) (cwV 2 hts gX0_targetBehind_X0_ancestorAt rfl rfl rfl (by decide +kernel) ⟨Nat.le_of_ble_eq_true rfl, Nat.le_of_ble_eq_true rfl⟩) (tk_pre hK hP rfl rfl) rfl rfl hl.1 rfl (lv_room (Nat.le_of_ble_eq_true rfl)) dX0_targetBehind_29 ⟨Nat.le_of_ble_eq_true rfl, Nat.le_of_ble_eq_true rfl⟩) (fun r hr1 => ?_)
    refine tk_top (y := nI (tk_anc pa 7 j)) hr1 ?_
    refine lv_istore_n hx hb dX0_targetBehind_32 rfl hl (by decide) rfl (fun ls hl => ?_)
    have hl : lv_has ls 5 [(3, .int (nI (tk_anc pa 7 j))), (2, .int (nI (he j + 1))), (0, .ref o), (1, .int (nI j))] := hl
    refine lv_aload_n hx hb dX0_targetBehind_33 rfl (lv_at hl 2 rfl) ?_
    refine va_get (D := (dC, dI)) (ci := 0) (v := .ref (q 2)) (C := RX0) (T := TX0) (N := 9) hx hb hts hin0 hown hK hP 0 rfl rfl 2 (by decide) fl16 (fun _ h9 => h9) rfl dX0_targetBehind_34 ?_
    refine lv_iload_n hx hb dX0_targetBehind_37 rfl (lv_at hl 3 rfl) ?_
    refine tk_rdi (v := aT j) hx hb hK hP 3 2 rfl rfl (j) (by omega) (by decide) rfl dX0_targetBehind_38 ?_
    refine lv_aload_n hx hb dX0_targetBehind_39 rfl (lv_at hl 2 rfl) ?_
    refine va_get (D := (dC, dI)) (ci := 0) (v := .ref (q 2)) (C := RX0) (T := TX0) (N := 9) hx hb hts hin0 hown hK hP 0 rfl rfl 2 (by decide) fl16 (fun _ h9 => h9) rfl dX0_targetBehind_40 ?_
    refine lv_iload_n hx hb dX0_targetBehind_43 rfl (lv_at hl 0 rfl) ?_
    refine tk_rdi (v := aT (tk_anc pa 7 j)) hx hb hK hP 3 2 rfl rfl (tk_anc pa 7 j) (by omega) (by decide) rfl dX0_targetBehind_44 ?_
    refine lv_isub hx hb dX0_targetBehind_45 ?_
    refine lv_bipush (v := nI 20) hx hb dX0_targetBehind_46 (by decide +kernel) ?_
    refine lv_sipush (v := nI 320) hx hb dX0_targetBehind_48 (by decide +kernel) ?_
    refine vp_callSi (W.runS (As := [.int ((aT j) - (aT (tk_anc pa 7 j))), .int (nI 20), .int (nI 320)]) (rest := []) ⟨hx, hb, hml, hown, hts⟩ (c0_within l ((aT j) - (aT (tk_anc pa 7 j))) (nI 20) (nI 320)) (va_cwS 3 hts gX0_targetBehind_X0_within rfl rfl rfl (by decide +kernel) ⟨Nat.le_of_ble_eq_true rfl, Nat.le_of_ble_eq_true rfl⟩) ⟨fun _ _ _ _ h9 => h9, fun _ _ _ => ⟨rfl, trivial⟩⟩ rfl rfl hl.1 rfl (lv_room (Nat.le_of_ble_eq_true rfl)) dX0_targetBehind_51 ⟨Nat.le_of_ble_eq_true rfl, Nat.le_of_ble_eq_true rfl⟩) (fun r hr1 => ?_)
    refine tk_top (y := tk_wi (aT j - aT (tk_anc pa 7 j)) (nI 20) (nI 320)) hr1 ?_
    refine lv_istore hx hb dX0_targetBehind_54 hl (by decide) rfl (fun ls hl => ?_)
    have hl : lv_has ls 5 [(4, .int (tk_wi (aT j - aT (tk_anc pa 7 j)) (nI 20) (nI 320))), (3, .int (nI (tk_anc pa 7 j))), (2, .int (nI (he j + 1))), (0, .ref o), (1, .int (nI j))] := hl
    refine lv_aload_n hx hb dX0_targetBehind_56 rfl (lv_at hl 3 rfl) ?_
    refine va_get (D := (dC, dI)) (ci := 0) (v := .ref (q 4)) (C := RX0) (T := TX0) (N := 9) hx hb hts hin0 hown hK hP 0 rfl rfl 4 (by decide) fl22 (fun _ h9 => h9) rfl dX0_targetBehind_57 ?_
    refine lv_iload_n hx hb dX0_targetBehind_60 rfl (lv_at hl 4 rfl) ?_
    refine tk_rdi (v := aG j) hx hb hK hP 5 4 rfl rfl (j) (by omega) (by decide) rfl dX0_targetBehind_61 ?_
    refine lv_iload hx hb dX0_targetBehind_62 (lv_at hl 0 rfl) ?_
    refine lv_imul hx hb dX0_targetBehind_64 ?_
    refine lv_bipush (v := nI 80) hx hb dX0_targetBehind_65 (by decide +kernel) ?_
    refine lv_idiv hx hb dX0_targetBehind_67 (by decide +kernel) ?_
    refine lv_sipush (v := nI 2048) hx hb dX0_targetBehind_68 (by decide +kernel) ?_
    refine lv_ldc (v := 65535) hx hb hown kc77 dX0_targetBehind_71 ?_
    refine tk_top (y := nI 65535) (by decide +kernel) ?_
    refine vp_callSi (W.runS (As := [.int (((aG j) * (tk_wi (aT j - aT (tk_anc pa 7 j)) (nI 20) (nI 320))) / (nI 80)), .int (nI 2048), .int (nI 65535)]) (rest := []) ⟨hx, hb, hml, hown, hts⟩ (c0_within l (((aG j) * (tk_wi (aT j - aT (tk_anc pa 7 j)) (nI 20) (nI 320))) / (nI 80)) (nI 2048) (nI 65535)) (va_cwS 3 hts gX0_targetBehind_X0_within rfl rfl rfl (by decide +kernel) ⟨Nat.le_of_ble_eq_true rfl, Nat.le_of_ble_eq_true rfl⟩) ⟨fun _ _ _ _ h9 => h9, fun _ _ _ => ⟨rfl, trivial⟩⟩ rfl rfl hl.1 rfl (lv_room (Nat.le_of_ble_eq_true rfl)) dX0_targetBehind_73 ⟨Nat.le_of_ble_eq_true rfl, Nat.le_of_ble_eq_true rfl⟩) (fun r hr1 => ?_)
    refine tk_top (y := tk_wi (aG j * tk_wi (aT j - aT (tk_anc pa 7 j)) (nI 20) (nI 320) / nI 80) (nI 2048) (nI 65535)) hr1 ?_
    subst hQ
    exact tk_iret hx hb hr hlocks (show tk_wi (aG j * tk_wi (aT j - aT (tk_anc pa 7 j)) (nI 20) (nI 320) / nI 80) (nI 2048) (nI 65535) = tk_tb pa he aT aG j from by unfold tk_tb; rw [if_pos e13]) dX0_targetBehind_76
  · have e13 : ¬ (he j + 1) % 8 = 0 := fun z => hc13 ((tk_eq0 (by omega)).mpr z)
    refine lv_aload_n hx hb dX0_targetBehind_16 rfl (lv_at hl 1 rfl) ?_
    refine va_get (D := (dC, dI)) (ci := 0) (v := .ref (q 4)) (C := RX0) (T := TX0) (N := 9) hx hb hts hin0 hown hK hP 0 rfl rfl 4 (by decide) fl22 (fun _ h9 => h9) rfl dX0_targetBehind_17 ?_
    refine lv_iload_n hx hb dX0_targetBehind_20 rfl (lv_at hl 2 rfl) ?_
    refine tk_rdi (v := aG j) hx hb hK hP 5 4 rfl rfl (j) (by omega) (by decide) rfl dX0_targetBehind_21 ?_
    subst hQ
    exact tk_iret hx hb hr hlocks (show aG j = tk_tb pa he aT aG j from by unfold tk_tb; rw [if_neg e13]) dX0_targetBehind_22
set_option maxHeartbeats 4000000 in
set_option maxRecDepth 100000 in
theorem c0_due (l : Launch) (dC : Nat → ClassId) (dI : Nat → Nat → Nat) (o : Nat) (q : Nat → Nat) (ca : Nat → ClassId) (aP aH aT aA aG aK aZ aS : Nat → Int32) (n : Nat) (pa he : Nat → Nat) (hT : tk_I aP aH pa he n) (b : Int32) : Met l yX0_due wsX0_due ({ frames := 3, cells := 0, slots := 0, locals := 60 }) (tk_R (dC, dI) (tk_w0 o q ca aP aH aT aA aG aK aZ aS n) (tk_t0 ca) [.ref o, .int b]) (vp_Si (fun r => r = tk_pb n b (tk_tb pa he aT aG))) 0 0 (fun _ => False) := by
  refine Met.ofW (cc := cX0_due) (maxL := 2) (ret := (some .int)) (by decide) rfl ?_
  intro p e s m args below meth c s₁ B hml hv
  obtain ⟨rfl, hP, hK⟩ := hv
  have hx := B.exec
  have hb := B.bytes
  have hr := B.returns
  have hts := atoms_spec (ws := wsX0_due) B.pre
  have hown : s.vm.findClass RX0 = some m.cls := findClass_of_methodNamed B.named
  have hlocks := B.notSynchronized
  have hl := lv_entry ([.ref o, .int b]) (n := 2) (Nat.le_of_ble_eq_true rfl)
  rw [lg_entry_eq]
  generalize (lg_sl ([.ref o, .int b]) ++ List.replicate (2 - (lg_sl ([.ref o, .int b])).length) Slot.unset).toArray = ls at hl ⊢
  have hl : lv_has ls 2 [(0, .ref o), (1, .int b)] := hl
  refine tk_Q (fun Q hQ => ?_)
  have hn := hT.1.2
  refine lv_aload_n hx hb dX0_due_0 rfl (lv_at hl 0 rfl) ?_
  refine lv_iload_n hx hb dX0_due_1 rfl (lv_at hl 1 rfl) ?_
  refine vp_callSi (W.runV (As := [.int b]) (rest := []) ⟨hx, hb, hml, hown, hts⟩ (c0_exists l dC dI o q ca aP aH aT aA aG aK aZ aS n b) (cwV 1 hts gX0_due_X0_exists rfl rfl rfl (by decide +kernel) ⟨Nat.le_of_ble_eq_true rfl, Nat.le_of_ble_eq_true rfl⟩) (tk_pre hK hP rfl rfl) rfl rfl hl.1 rfl (lv_room (Nat.le_of_ble_eq_true rfl)) dX0_due_2 ⟨Nat.le_of_ble_eq_true rfl, Nat.le_of_ble_eq_true rfl⟩) (fun r hr1 => ?_)
  refine tk_top (y := tk_ex n b) hr1 ?_
  refine lv_if_eq (tgt := 16) hx hb dX0_due_5 (by decide) (fun hc5 => ?_) (fun hc5 => ?_)
  · refine lv_bipush (v := -2) hx hb dX0_due_16 (by decide +kernel) ?_
    subst hQ
    exact tk_iret hx hb hr hlocks (tk_pb0 hc5).symm dX0_due_18
  · obtain ⟨j, hj, rfl⟩ := tk_ex_t hn hc5
    refine lv_aload_n hx hb dX0_due_8 rfl (lv_at hl 0 rfl) ?_
    refine lv_iload_n hx hb dX0_due_9 rfl (lv_at hl 1 rfl) ?_
    refine vp_callSi (W.runV (As := [.int (nI j)]) (rest := []) ⟨hx, hb, hml, hown, hts⟩ (c0_targetBehind l dC dI o q ca aP aH aT aA aG aK aZ aS n pa he hT j hj) (cwV 1 hts gX0_due_X0_targetBehind rfl rfl rfl (by decide +kernel) ⟨Nat.le_of_ble_eq_true rfl, Nat.le_of_ble_eq_true rfl⟩) (tk_pre hK hP rfl rfl) rfl rfl hl.1 rfl (lv_room (Nat.le_of_ble_eq_true rfl)) dX0_due_10 ⟨Nat.le_of_ble_eq_true rfl, Nat.le_of_ble_eq_true rfl⟩) (fun r hr1 => ?_)
    refine tk_top (y := tk_tb pa he aT aG j) hr1 ?_
    refine lv_goto (tgt := 18) hx hb dX0_due_13 (by decide) ?_
    subst hQ
    exact tk_iret hx hb hr hlocks (tk_pbn hn hj).symm dX0_due_18
set_option maxHeartbeats 4000000 in
set_option maxRecDepth 100000 in
theorem c0_ancestor (l : Launch) (dC : Nat → ClassId) (dI : Nat → Nat → Nat) (o : Nat) (q : Nat → Nat) (ca : Nat → ClassId) (aP aH aT aA aG aK aZ aS : Nat → Int32) (n : Nat) (pa he : Nat → Nat) (hT : tk_I aP aH pa he n) (b t : Int32) : Met l yX0_ancestor wsX0_ancestor ({ frames := 1, cells := 0, slots := 0, locals := 24 }) (tk_R (dC, dI) (tk_w0 o q ca aP aH aT aA aG aK aZ aS n) (tk_t0 ca) [.ref o, .int b, .int t]) (vp_Si (fun r => r = tk_an pa he n b t)) 0 0 (fun _ => False) := by
  refine Met.ofW (cc := cX0_ancestor) (maxL := 3) (ret := (some .int)) (by decide) rfl ?_
  intro p e s m args below meth c s₁ B hml hv
  obtain ⟨rfl, hP, hK⟩ := hv
  have hx := B.exec
  have hb := B.bytes
  have hr := B.returns
  have hts := atoms_spec (ws := wsX0_ancestor) B.pre
  have hown : s.vm.findClass RX0 = some m.cls := findClass_of_methodNamed B.named
  have hlocks := B.notSynchronized
  have hin0 : ∀ w ∈ u_ws RX0 TX0 9, w ∈ wsX0_ancestor := by decide +kernel
  have fl13 := hts (.fieldLink RX0 13 "WorkTree" "heights" "[I") (by decide +kernel)
  have hl := lv_entry ([.ref o, .int b, .int t]) (n := 3) (Nat.le_of_ble_eq_true rfl)
  rw [lg_entry_eq]
  generalize (lg_sl ([.ref o, .int b, .int t]) ++ List.replicate (3 - (lg_sl ([.ref o, .int b, .int t])).length) Slot.unset).toArray = ls at hl ⊢
  have hl : lv_has ls 3 [(0, .ref o), (1, .int b), (2, .int t)] := hl
  refine tk_Q (fun Q hQ => ?_)
  have hn := hT.1.2
  refine lv_aload_n hx hb dX0_ancestor_0 rfl (lv_at hl 0 rfl) ?_
  refine lv_iload_n hx hb dX0_ancestor_1 rfl (lv_at hl 1 rfl) ?_
  refine vp_callSi (W.runV (As := [.int b]) (rest := []) ⟨hx, hb, hml, hown, hts⟩ (c0_exists l dC dI o q ca aP aH aT aA aG aK aZ aS n b) (cwV 1 hts gX0_ancestor_X0_exists rfl rfl rfl (by decide +kernel) ⟨Nat.le_of_ble_eq_true rfl, Nat.le_of_ble_eq_true rfl⟩) (tk_pre hK hP rfl rfl) rfl rfl hl.1 rfl (lv_room (Nat.le_of_ble_eq_true rfl)) dX0_ancestor_2 ⟨Nat.le_of_ble_eq_true rfl, Nat.le_of_ble_eq_true rfl⟩) (fun r hr1 => ?_)
  refine tk_top (y := tk_ex n b) hr1 ?_
  refine lv_if_eq (tgt := 22) hx hb dX0_ancestor_5 (by decide) (fun hc5 => ?_) (fun hc5 => ?_)
  · refine lv_bipush (v := -2) hx hb dX0_ancestor_22 (by decide +kernel) ?_
    subst hQ
    exact tk_iret hx hb hr hlocks (tk_an0 hc5).symm dX0_ancestor_24
  · obtain ⟨j, hj, rfl⟩ := tk_ex_t hn hc5
    have hjj := (hT.2.2.2.1 j hj).2
    refine lv_iload_n hx hb dX0_ancestor_8 rfl (lv_at hl 2 rfl) ?_
    refine lv_if_lt (tgt := 22) hx hb dX0_ancestor_9 (by decide) (fun hc9 => ?_) (fun hc9 => ?_)
    · refine lv_bipush (v := -2) hx hb dX0_ancestor_22 (by decide +kernel) ?_
      subst hQ
      exact tk_iret hx hb hr hlocks (tk_an1 hc9).symm dX0_ancestor_24
    · refine lv_iload_n hx hb dX0_ancestor_12 rfl (lv_at hl 2 rfl) ?_
      refine lv_aload_n hx hb dX0_ancestor_13 rfl (lv_at hl 0 rfl) ?_
      refine va_get (D := (dC, dI)) (ci := 0) (v := .ref (q 1)) (C := RX0) (T := TX0) (N := 9) hx hb hts hin0 hown hK hP 0 rfl rfl 1 (by decide) fl13 (fun _ h9 => h9) rfl dX0_ancestor_14 ?_
      refine lv_iload_n hx hb dX0_ancestor_17 rfl (lv_at hl 1 rfl) ?_
      refine tk_rdi (v := nI (he j)) hx hb hK hP 2 1 rfl rfl (j) (by omega) (by decide) (hT.2.2.2.1 j hj).1 dX0_ancestor_18 ?_
      refine lv_icmp_le (tgt := 25) hx hb dX0_ancestor_19 (by decide) (fun hc19 => ?_) (fun hc19 => ?_)
      · obtain ⟨t, ht0, rfl⟩ := nI_of hc9
        have e19 := (nI_leI (by omega) (by omega)).mp hc19
        refine lv_aload_n hx hb dX0_ancestor_25 rfl (lv_at hl 0 rfl) ?_
        refine lv_iload_n hx hb dX0_ancestor_26 rfl (lv_at hl 1 rfl) ?_
        refine lv_iload_n hx hb dX0_ancestor_27 rfl (lv_at hl 2 rfl) ?_
        refine vp_callSi (W.runV (As := [.int (nI j), .int (nI t)]) (rest := []) ⟨hx, hb, hml, hown, hts⟩ (c0_ancestorAt l dC dI o q ca aP aH aT aA aG aK aZ aS n pa he hT j (he j - t) t hj (by omega)) (cwV 2 hts gX0_ancestor_X0_ancestorAt rfl rfl rfl (by decide +kernel) ⟨Nat.le_of_ble_eq_true rfl, Nat.le_of_ble_eq_true rfl⟩) (tk_pre hK hP rfl rfl) rfl rfl hl.1 rfl (lv_room (Nat.le_of_ble_eq_true rfl)) dX0_ancestor_28 ⟨Nat.le_of_ble_eq_true rfl, Nat.le_of_ble_eq_true rfl⟩) (fun r hr1 => ?_)
        refine tk_top (y := nI (tk_anc pa (he j - t) j)) hr1 ?_
        subst hQ
        exact tk_iret hx hb hr hlocks (tk_an3 hn hj ht0 e19).symm dX0_ancestor_31
      · refine lv_bipush (v := -2) hx hb dX0_ancestor_22 (by decide +kernel) ?_
        subst hQ
        exact tk_iret hx hb hr hlocks (tk_an2 hn hj hc19).symm dX0_ancestor_24
set_option maxHeartbeats 4000000 in
set_option maxRecDepth 100000 in
theorem c0_look (l : Launch) (dC : Nat → ClassId) (dI : Nat → Nat → Nat) (o : Nat) (q : Nat → Nat) (ca : Nat → ClassId) (aP aH aT aA aG aK aZ aS : Nat → Int32) (n : Nat) (hn : n ≤ 512) (b w : Int32) : Met l yX0_look wsX0_look ({ frames := 1, cells := 0, slots := 0, locals := 21 }) (tk_R (dC, dI) (tk_w0 o q ca aP aH aT aA aG aK aZ aS n) (tk_t0 ca) [.ref o, .int b, .int w]) (vp_Sl (fun r => r = tk_lk aH aP aT aG aK aZ n b w)) 0 0 (fun _ => False) := by
  refine Met.ofW (cc := cX0_look) (maxL := 3) (ret := (some .long)) (by decide) rfl ?_
  intro p e s m args below meth c s₁ B hml hv
  obtain ⟨rfl, hP, hK⟩ := hv
  have hx := B.exec
  have hb := B.bytes
  have hr := B.returns
  have hts := atoms_spec (ws := wsX0_look) B.pre
  have hown : s.vm.findClass RX0 = some m.cls := findClass_of_methodNamed B.named
  have hlocks := B.notSynchronized
  have hin0 : ∀ w ∈ u_ws RX0 TX0 9, w ∈ wsX0_look := by decide +kernel
  have kl65 := hts (.constantLong RX0 65 (-1)) (by decide +kernel)
  have kl67 := hts (.constantLong RX0 67 (-2)) (by decide +kernel)
  have fl13 := hts (.fieldLink RX0 13 "WorkTree" "heights" "[I") (by decide +kernel)
  have fl9 := hts (.fieldLink RX0 9 "WorkTree" "parents" "[I") (by decide +kernel)
  have fl16 := hts (.fieldLink RX0 16 "WorkTree" "times" "[I") (by decide +kernel)
  have fl22 := hts (.fieldLink RX0 22 "WorkTree" "targets" "[I") (by decide +kernel)
  have fl25 := hts (.fieldLink RX0 25 "WorkTree" "works" "[I") (by decide +kernel)
  have fl28 := hts (.fieldLink RX0 28 "WorkTree" "wrong" "[Z") (by decide +kernel)
  have hl := lv_entry ([.ref o, .int b, .int w]) (n := 3) (Nat.le_of_ble_eq_true rfl)
  rw [lg_entry_eq]
  generalize (lg_sl ([.ref o, .int b, .int w]) ++ List.replicate (3 - (lg_sl ([.ref o, .int b, .int w])).length) Slot.unset).toArray = ls at hl ⊢
  have hl : lv_has ls 3 [(0, .ref o), (1, .int b), (2, .int w)] := hl
  refine tk_Q (fun Q hQ => ?_)
  refine lv_iload_n hx hb dX0_look_0 rfl (lv_at hl 2 rfl) ?_
  refine lv_if_lt (tgt := 9) hx hb dX0_look_1 (by decide) (fun hc1 => ?_) (fun hc1 => ?_)
  · refine lv_ldc2 (v := -1) hx hb hown kl65 dX0_look_9 ?_
    subst hQ
    exact tk_lret hx hb hr hlocks (tk_lk_a hc1).symm dX0_look_12
  · refine lv_iload_n hx hb dX0_look_4 rfl (lv_at hl 2 rfl) ?_
    refine lv_iconst (v := nI 5) hx hb dX0_look_5 (by decide +kernel) ?_
    refine lv_icmp_le (tgt := 13) hx hb dX0_look_6 (by decide) (fun hc6 => ?_) (fun hc6 => ?_)
    · refine lv_aload_n hx hb dX0_look_13 rfl (lv_at hl 0 rfl) ?_
      refine lv_iload_n hx hb dX0_look_14 rfl (lv_at hl 1 rfl) ?_
      refine vp_callSi (W.runV (As := [.int b]) (rest := []) ⟨hx, hb, hml, hown, hts⟩ (c0_exists l dC dI o q ca aP aH aT aA aG aK aZ aS n b) (cwV 1 hts gX0_look_X0_exists rfl rfl rfl (by decide +kernel) ⟨Nat.le_of_ble_eq_true rfl, Nat.le_of_ble_eq_true rfl⟩) (tk_pre hK hP rfl rfl) rfl rfl hl.1 rfl (lv_room (Nat.le_of_ble_eq_true rfl)) dX0_look_15 ⟨Nat.le_of_ble_eq_true rfl, Nat.le_of_ble_eq_true rfl⟩) (fun r hr1 => ?_)
      refine tk_top (y := tk_ex n b) hr1 ?_
      refine lv_if_ne (tgt := 25) hx hb dX0_look_18 (by decide) (fun hc18 => ?_) (fun hc18 => ?_)
      · obtain ⟨j, hj, rfl⟩ := tk_ex_t hn hc18
        obtain ⟨k, hk, rfl⟩ := nI_of hc1
        refine lv_iload_n hx hb dX0_look_25 rfl (lv_at hl 2 rfl) ?_
        have e6 : k ≤ 5 := (nI_leI (by omega) (by decide)).mp hc6
        rcases (show k = 0 ∨ k = 1 ∨ k = 2 ∨ k = 3 ∨ k = 4 ∨ k = 5 by omega) with rfl | rfl | rfl | rfl | rfl | rfl
        · refine lv_tableIn (tgt := 60) (off := 34) hx hb dX0_look_26 (by decide +kernel) (by decide +kernel) (by decide +kernel) (by decide) ?_
          refine lv_aload_n hx hb dX0_look_60 rfl (lv_at hl 0 rfl) ?_
          refine va_get (D := (dC, dI)) (ci := 0) (v := .ref (q 1)) (C := RX0) (T := TX0) (N := 9) hx hb hts hin0 hown hK hP 0 rfl rfl 1 (by decide) fl13 (fun _ h9 => h9) rfl dX0_look_61 ?_
          refine lv_iload_n hx hb dX0_look_64 rfl (lv_at hl 1 rfl) ?_
          refine tk_rdi (v := aH j) hx hb hK hP 2 1 rfl rfl (j) (by omega) (by decide) rfl dX0_look_65 ?_
          refine lv_i2l (v := (aH j).toInt64) hx hb dX0_look_66 rfl ?_
          subst hQ
          exact tk_lret hx hb hr hlocks (tk_lk_0 hn hj).symm dX0_look_67
        · refine lv_tableIn (tgt := 68) (off := 42) hx hb dX0_look_26 (by decide +kernel) (by decide +kernel) (by decide +kernel) (by decide) ?_
          refine lv_aload_n hx hb dX0_look_68 rfl (lv_at hl 0 rfl) ?_
          refine va_get (D := (dC, dI)) (ci := 0) (v := .ref (q 0)) (C := RX0) (T := TX0) (N := 9) hx hb hts hin0 hown hK hP 0 rfl rfl 0 (by decide) fl9 (fun _ h9 => h9) rfl dX0_look_69 ?_
          refine lv_iload_n hx hb dX0_look_72 rfl (lv_at hl 1 rfl) ?_
          refine tk_rdi (v := aP j) hx hb hK hP 1 0 rfl rfl (j) (by omega) (by decide) rfl dX0_look_73 ?_
          refine lv_i2l (v := (aP j).toInt64) hx hb dX0_look_74 rfl ?_
          subst hQ
          exact tk_lret hx hb hr hlocks (tk_lk_1 hn hj).symm dX0_look_75
        · refine lv_tableIn (tgt := 76) (off := 50) hx hb dX0_look_26 (by decide +kernel) (by decide +kernel) (by decide +kernel) (by decide) ?_
          refine lv_aload_n hx hb dX0_look_76 rfl (lv_at hl 0 rfl) ?_
          refine va_get (D := (dC, dI)) (ci := 0) (v := .ref (q 2)) (C := RX0) (T := TX0) (N := 9) hx hb hts hin0 hown hK hP 0 rfl rfl 2 (by decide) fl16 (fun _ h9 => h9) rfl dX0_look_77 ?_
          refine lv_iload_n hx hb dX0_look_80 rfl (lv_at hl 1 rfl) ?_
          refine tk_rdi (v := aT j) hx hb hK hP 3 2 rfl rfl (j) (by omega) (by decide) rfl dX0_look_81 ?_
          refine lv_i2l (v := (aT j).toInt64) hx hb dX0_look_82 rfl ?_
          subst hQ
          exact tk_lret hx hb hr hlocks (tk_lk_2 hn hj).symm dX0_look_83
        · refine lv_tableIn (tgt := 84) (off := 58) hx hb dX0_look_26 (by decide +kernel) (by decide +kernel) (by decide +kernel) (by decide) ?_
          refine lv_aload_n hx hb dX0_look_84 rfl (lv_at hl 0 rfl) ?_
          refine va_get (D := (dC, dI)) (ci := 0) (v := .ref (q 4)) (C := RX0) (T := TX0) (N := 9) hx hb hts hin0 hown hK hP 0 rfl rfl 4 (by decide) fl22 (fun _ h9 => h9) rfl dX0_look_85 ?_
          refine lv_iload_n hx hb dX0_look_88 rfl (lv_at hl 1 rfl) ?_
          refine tk_rdi (v := aG j) hx hb hK hP 5 4 rfl rfl (j) (by omega) (by decide) rfl dX0_look_89 ?_
          refine lv_i2l (v := (aG j).toInt64) hx hb dX0_look_90 rfl ?_
          subst hQ
          exact tk_lret hx hb hr hlocks (tk_lk_3 hn hj).symm dX0_look_91
        · refine lv_tableIn (tgt := 92) (off := 66) hx hb dX0_look_26 (by decide +kernel) (by decide +kernel) (by decide +kernel) (by decide) ?_
          refine lv_aload_n hx hb dX0_look_92 rfl (lv_at hl 0 rfl) ?_
          refine va_get (D := (dC, dI)) (ci := 0) (v := .ref (q 5)) (C := RX0) (T := TX0) (N := 9) hx hb hts hin0 hown hK hP 0 rfl rfl 5 (by decide) fl25 (fun _ h9 => h9) rfl dX0_look_93 ?_
          refine lv_iload_n hx hb dX0_look_96 rfl (lv_at hl 1 rfl) ?_
          refine tk_rdi (v := aK j) hx hb hK hP 6 5 rfl rfl (j) (by omega) (by decide) rfl dX0_look_97 ?_
          refine lv_i2l (v := (aK j).toInt64) hx hb dX0_look_98 rfl ?_
          subst hQ
          exact tk_lret hx hb hr hlocks (tk_lk_4 hn hj).symm dX0_look_99
        · refine lv_tableOut (tgt := 100) hx hb dX0_look_26 (by decide +kernel) (by decide) ?_
          refine lv_aload_n hx hb dX0_look_100 rfl (lv_at hl 0 rfl) ?_
          refine va_get (D := (dC, dI)) (ci := 0) (v := .ref (q 6)) (C := RX0) (T := TX0) (N := 9) hx hb hts hin0 hown hK hP 0 rfl rfl 6 (by decide) fl28 (fun _ h9 => h9) rfl dX0_look_101 ?_
          refine lv_iload_n hx hb dX0_look_104 rfl (lv_at hl 1 rfl) ?_
          refine tk_rdz (v := aZ j) hx hb hK hP 7 6 rfl rfl (j) (by omega) (by decide) rfl dX0_look_105 ?_
          refine lv_if_eq (tgt := 113) hx hb dX0_look_106 (by decide) (fun hc106 => ?_) (fun hc106 => ?_)
          · refine lv_lconst (v := 0) hx hb dX0_look_113 (by decide +kernel) ?_
            subst hQ
            exact tk_lret hx hb hr hlocks (tk_lk_5 hn hj hc106).symm dX0_look_114
          · refine lv_lconst (v := 1) hx hb dX0_look_109 (by decide +kernel) ?_
            refine lv_goto (tgt := 114) hx hb dX0_look_110 (by decide) ?_
            subst hQ
            exact tk_lret hx hb hr hlocks (tk_lk_6 hn hj hc106).symm dX0_look_114
      · refine lv_ldc2 (v := -2) hx hb hown kl67 dX0_look_21 ?_
        subst hQ
        exact tk_lret hx hb hr hlocks (tk_lk_c hc1 hc6 hc18).symm dX0_look_24
    · refine lv_ldc2 (v := -1) hx hb hown kl65 dX0_look_9 ?_
      subst hQ
      exact tk_lret hx hb hr hlocks (tk_lk_b hc1 hc6).symm dX0_look_12
