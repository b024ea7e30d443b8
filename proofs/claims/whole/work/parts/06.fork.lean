set_option maxHeartbeats 4000000 in
set_option maxRecDepth 100000 in
theorem c0_fork (l : Launch) (dC : Nat → ClassId) (dI : Nat → Nat → Nat) (o : Nat) (q : Nat → Nat) (ca : Nat → ClassId) (aP aH aT aA aG aK aZ aS : Nat → Int32) (n : Nat) (pa he : Nat → Nat) (hT : tk_I aP aH pa he n) (b1 b2 : Int32) : Met l yX0_fork wsX0_fork ({ frames := 1, cells := 0, slots := 0, locals := 24 }) (tk_R (dC, dI) (tk_w0 o q ca aP aH aT aA aG aK aZ aS n) (tk_t0 ca) [.ref o, .int b1, .int b2]) (vp_Si (fun r => r = tk_fr pa he n b1 b2)) 0 0 (fun _ => False) := by
  refine Met.ofW (cc := cX0_fork) (maxL := 7) (ret := (some .int)) (by decide) rfl ?_
  intro p e s m args below meth c s₁ B hml hv
  obtain ⟨rfl, hP, hK⟩ := hv
  have hx := B.exec
  have hb := B.bytes
  have hr := B.returns
  have hts := atoms_spec (ws := wsX0_fork) B.pre
  have hown : s.vm.findClass RX0 = some m.cls := findClass_of_methodNamed B.named
  have hlocks := B.notSynchronized
  have hin0 : ∀ w ∈ u_ws RX0 TX0 9, w ∈ wsX0_fork := by decide +kernel
  have fl13 := hts (.fieldLink RX0 13 "WorkTree" "heights" "[I") (by decide +kernel)
  have ml56 := hts (.methodLink RX0 56 Lib.Math.min.name) (by decide +kernel)
  have ms56 := hts (.static Lib.Math.min.name) (by decide +kernel)
  have mi56 := hts (.initialized "java/lang/Math") (by decide +kernel)
  have mc56 := hts (.code Lib.Math.min.name Lib.Math.min.code 2 (some .int)) (by decide +kernel)
  have fl9 := hts (.fieldLink RX0 9 "WorkTree" "parents" "[I") (by decide +kernel)
  have hl := lv_entry ([.ref o, .int b1, .int b2]) (n := 7) (Nat.le_of_ble_eq_true rfl)
  rw [lg_entry_eq]
  generalize (lg_sl ([.ref o, .int b1, .int b2]) ++ List.replicate (7 - (lg_sl ([.ref o, .int b1, .int b2])).length) Slot.unset).toArray = ls at hl ⊢
  have hl : lv_has ls 7 [(0, .ref o), (1, .int b1), (2, .int b2)] := hl
  refine tk_Q (fun Q hQ => ?_)
  have hn := hT.1.2
  refine lv_aload_n hx hb dX0_fork_0 rfl (lv_at hl 0 rfl) ?_
  refine lv_iload_n hx hb dX0_fork_1 rfl (lv_at hl 1 rfl) ?_
  refine vp_callSi (W.runV (As := [.int b1]) (rest := []) ⟨hx, hb, hml, hown, hts⟩ (c0_exists l dC dI o q ca aP aH aT aA aG aK aZ aS n b1) (cwV 1 hts gX0_fork_X0_exists rfl rfl rfl (by decide +kernel) ⟨Nat.le_of_ble_eq_true rfl, Nat.le_of_ble_eq_true rfl⟩) (tk_pre hK hP rfl rfl) rfl rfl hl.1 rfl (lv_room (Nat.le_of_ble_eq_true rfl)) dX0_fork_2 ⟨Nat.le_of_ble_eq_true rfl, Nat.le_of_ble_eq_true rfl⟩) (fun r hr1 => ?_)
  refine tk_top (y := tk_ex n b1) hr1 ?_
  refine lv_if_eq (tgt := 16) hx hb dX0_fork_5 (by decide) (fun hc5 => ?_) (fun hc5 => ?_)
  · refine lv_bipush (v := -2) hx hb dX0_fork_16 (by decide +kernel) ?_
    subst hQ
    exact tk_iret hx hb hr hlocks (tk_fr0 hc5).symm dX0_fork_18
  · obtain ⟨i, hi, rfl⟩ := tk_ex_t hn hc5
    have hii := (hT.2.2.2.1 i hi).2
    refine lv_aload_n hx hb dX0_fork_8 rfl (lv_at hl 0 rfl) ?_
    refine lv_iload_n hx hb dX0_fork_9 rfl (lv_at hl 2 rfl) ?_
    refine vp_callSi (W.runV (As := [.int b2]) (rest := []) ⟨hx, hb, hml, hown, hts⟩ (c0_exists l dC dI o q ca aP aH aT aA aG aK aZ aS n b2) (cwV 1 hts gX0_fork_X0_exists rfl rfl rfl (by decide +kernel) ⟨Nat.le_of_ble_eq_true rfl, Nat.le_of_ble_eq_true rfl⟩) (tk_pre hK hP rfl rfl) rfl rfl hl.1 rfl (lv_room (Nat.le_of_ble_eq_true rfl)) dX0_fork_10 ⟨Nat.le_of_ble_eq_true rfl, Nat.le_of_ble_eq_true rfl⟩) (fun r hr1 => ?_)
    refine tk_top (y := tk_ex n b2) hr1 ?_
    refine lv_if_ne (tgt := 19) hx hb dX0_fork_13 (by decide) (fun hc13 => ?_) (fun hc13 => ?_)
    · obtain ⟨j, hj, rfl⟩ := tk_ex_t hn hc13
      have hjj := (hT.2.2.2.1 j hj).2
      refine lv_aload_n hx hb dX0_fork_19 rfl (lv_at hl 0 rfl) ?_
      refine va_get (D := (dC, dI)) (ci := 0) (v := .ref (q 1)) (C := RX0) (T := TX0) (N := 9) hx hb hts hin0 hown hK hP 0 rfl rfl 1 (by decide) fl13 (fun _ h9 => h9) rfl dX0_fork_20 ?_
      refine lv_iload_n hx hb dX0_fork_23 rfl (lv_at hl 1 rfl) ?_
      refine tk_rdi (v := nI (he i)) hx hb hK hP 2 1 rfl rfl (i) (by omega) (by decide) (hT.2.2.2.1 i hi).1 dX0_fork_24 ?_
      refine lv_aload_n hx hb dX0_fork_25 rfl (lv_at hl 0 rfl) ?_
      refine va_get (D := (dC, dI)) (ci := 0) (v := .ref (q 1)) (C := RX0) (T := TX0) (N := 9) hx hb hts hin0 hown hK hP 0 rfl rfl 1 (by decide) fl13 (fun _ h9 => h9) rfl dX0_fork_26 ?_
      refine lv_iload_n hx hb dX0_fork_29 rfl (lv_at hl 2 rfl) ?_
      refine tk_rdi (v := nI (he j)) hx hb hK hP 2 1 rfl rfl (j) (by omega) (by decide) (hT.2.2.2.1 j hj).1 dX0_fork_30 ?_
      refine va_mmin hx hb (hml.trans hl.1.symm) hown ml56 ms56 mi56 mc56 (Nat.le_of_ble_eq_true rfl) (Nat.le_of_ble_eq_true rfl) (Nat.le_of_ble_eq_true rfl) (Nat.le_of_ble_eq_true rfl) dX0_fork_31 ?_
      refine tk_top (y := nI (tk_mn (he i) (he j))) (tk_mnI (by omega) (by omega)) ?_
      obtain ⟨mn1, mn2⟩ := tk_mn_le (a := he i) (b := he j)
      have hzz : nI (tk_fork pa he i j) = tk_fr pa he n (nI i) (nI j) := (tk_fr2 hn hi hj).symm
      unfold tk_fork at hzz
      generalize tk_mn (he i) (he j) = hm at hzz mn1 mn2 ⊢
      obtain ⟨an1, an2⟩ := tk_anc_in hT (he i - hm) i hi (by omega)
      obtain ⟨bn1, bn2⟩ := tk_anc_in hT (he j - hm) j hj (by omega)
      refine lv_istore_n hx hb dX0_fork_34 rfl hl (by decide) rfl (fun ls hl => ?_)
      have hl : lv_has ls 7 [(3, .int (nI hm)), (0, .ref o), (1, .int (nI i)), (2, .int (nI j))] := hl
      refine lv_aload_n hx hb dX0_fork_35 rfl (lv_at hl 1 rfl) ?_
      refine lv_iload_n hx hb dX0_fork_36 rfl (lv_at hl 2 rfl) ?_
      refine lv_iload_n hx hb dX0_fork_37 rfl (lv_at hl 0 rfl) ?_
      refine vp_callSi (W.runV (As := [.int (nI i), .int (nI hm)]) (rest := []) ⟨hx, hb, hml, hown, hts⟩ (c0_ancestorAt l dC dI o q ca aP aH aT aA aG aK aZ aS n pa he hT i (he i - hm) hm hi (by omega)) (cwV 2 hts gX0_fork_X0_ancestorAt rfl rfl rfl (by decide +kernel) ⟨Nat.le_of_ble_eq_true rfl, Nat.le_of_ble_eq_true rfl⟩) (tk_pre hK hP rfl rfl) rfl rfl hl.1 rfl (lv_room (Nat.le_of_ble_eq_true rfl)) dX0_fork_38 ⟨Nat.le_of_ble_eq_true rfl, Nat.le_of_ble_eq_true rfl⟩) (fun r hr1 => ?_)
      refine tk_top (y := nI (tk_anc pa (he i - hm) i)) hr1 ?_
      refine lv_istore hx hb dX0_fork_41 hl (by decide) rfl (fun ls hl => ?_)
      have hl : lv_has ls 7 [(4, .int (nI (tk_anc pa (he i - hm) i))), (3, .int (nI hm)), (0, .ref o), (1, .int (nI i)), (2, .int (nI j))] := hl
      refine lv_aload_n hx hb dX0_fork_43 rfl (lv_at hl 2 rfl) ?_
      refine lv_iload_n hx hb dX0_fork_44 rfl (lv_at hl 4 rfl) ?_
      refine lv_iload_n hx hb dX0_fork_45 rfl (lv_at hl 1 rfl) ?_
      refine vp_callSi (W.runV (As := [.int (nI j), .int (nI hm)]) (rest := []) ⟨hx, hb, hml, hown, hts⟩ (c0_ancestorAt l dC dI o q ca aP aH aT aA aG aK aZ aS n pa he hT j (he j - hm) hm hj (by omega)) (cwV 2 hts gX0_fork_X0_ancestorAt rfl rfl rfl (by decide +kernel) ⟨Nat.le_of_ble_eq_true rfl, Nat.le_of_ble_eq_true rfl⟩) (tk_pre hK hP rfl rfl) rfl rfl hl.1 rfl (lv_room (Nat.le_of_ble_eq_true rfl)) dX0_fork_46 ⟨Nat.le_of_ble_eq_true rfl, Nat.le_of_ble_eq_true rfl⟩) (fun r hr1 => ?_)
      refine tk_top (y := nI (tk_anc pa (he j - hm) j)) hr1 ?_
      refine lv_istore hx hb dX0_fork_49 hl (by decide) rfl (fun ls hl => ?_)
      have hl : lv_has ls 7 [(5, .int (nI (tk_anc pa (he j - hm) j))), (4, .int (nI (tk_anc pa (he i - hm) i))), (3, .int (nI hm)), (0, .ref o), (1, .int (nI i)), (2, .int (nI j))] := hl
      refine lv_iload_n hx hb dX0_fork_51 rfl (lv_at hl 2 rfl) ?_
      refine lv_istore hx hb dX0_fork_52 hl (by decide) rfl (fun ls hl => ?_)
      have hl : lv_has ls 7 [(6, .int (nI hm)), (5, .int (nI (tk_anc pa (he j - hm) j))), (4, .int (nI (tk_anc pa (he i - hm) i))), (3, .int (nI hm)), (0, .ref o), (1, .int (nI i)), (2, .int (nI j))] := hl
      generalize hzq : tk_fk pa hm (tk_anc pa (he i - hm) i) (tk_anc pa (he j - hm) j) = z at hzz
      have loop : ∀ (hh : Nat) (a b : Nat) (ls : Array Slot), a < n → b < n → he a = hh → he b = hh → tk_fk pa hh a b = z → lv_has ls 7 [(6, .int (nI hh)), (5, .int (nI b)), (4, .int (nI a)), (3, .int (nI hm)), (0, .ref o), (1, .int (nI i)), (2, .int (nI j))] → W p l e (headSpec wsX0_fork ({ frames := 1, cells := 0, slots := 0, locals := 24 })).room s m ([.ref o, .int (nI i), .int (nI j)] : List Value).toArray below meth c s.heap [] 0 0 Q (F0 m 54 ls []) := by
        intro hh
        induction hh with
        | zero =>
          intro a b ls ha hb0 hea heb hz hl
          have hha := (hT.2.2.2.1 a ha).2
          refine lv_iload hx hb dX0_fork_54 (lv_at hl 0 rfl) ?_
          refine lv_if_le (tgt := 90) hx hb dX0_fork_56 (by decide) (fun hc56 => ?_) (fun hc56 => ?_)
          · refine lv_iload hx hb dX0_fork_90 (lv_at hl 2 rfl) ?_
            subst hQ
            exact tk_iret hx hb hr hlocks (show nI a = _ from (congrArg nI hz).trans hzz) dX0_fork_92
          · exact absurd ((tk_le0 (by omega)).mpr rfl) hc56
        | succ hh ih =>
          intro a b ls ha hb0 hea heb hz hl
          have hha := (hT.2.2.2.1 a ha).2
          refine lv_iload hx hb dX0_fork_54 (lv_at hl 0 rfl) ?_
          refine lv_if_le (tgt := 90) hx hb dX0_fork_56 (by decide) (fun hc56 => ?_) (fun hc56 => ?_)
          · exact absurd ((tk_le0 (by omega)).mp hc56) (by omega)
          · obtain ⟨u1, u2, u3, u4⟩ := tk_up hT ha (by omega)
            obtain ⟨v1, v2, v3, v4⟩ := tk_up hT hb0 (by omega)
            refine lv_iload hx hb dX0_fork_59 (lv_at hl 2 rfl) ?_
            refine lv_iload hx hb dX0_fork_61 (lv_at hl 1 rfl) ?_
            refine lv_icmp_eq (tgt := 90) hx hb dX0_fork_63 (by decide) (fun hc63 => ?_) (fun hc63 => ?_)
            · have e63 := (nI_eq (by omega) (by omega)).mp hc63
              refine lv_iload hx hb dX0_fork_90 (lv_at hl 2 rfl) ?_
              subst hQ
              exact tk_iret hx hb hr hlocks (show nI a = _ from (congrArg nI ((tk_fk_t e63).symm.trans hz)).trans hzz) dX0_fork_92
            · have e63 : ¬ a = b := fun z9 => hc63 (congrArg nI z9)
              refine lv_aload_n hx hb dX0_fork_66 rfl (lv_at hl 4 rfl) ?_
              refine va_get (D := (dC, dI)) (ci := 0) (v := .ref (q 0)) (C := RX0) (T := TX0) (N := 9) hx hb hts hin0 hown hK hP 0 rfl rfl 0 (by decide) fl9 (fun _ h9 => h9) rfl dX0_fork_67 ?_
              refine lv_iload hx hb dX0_fork_70 (lv_at hl 2 rfl) ?_
              refine tk_rdi (v := nI (pa a)) hx hb hK hP 1 0 rfl rfl (a) (by omega) (by decide) u2 dX0_fork_72 ?_
              refine lv_istore hx hb dX0_fork_73 hl (by decide) rfl (fun ls hl => ?_)
              have hl : lv_has ls 7 [(4, .int (nI (pa a))), (6, .int (nI (hh + 1))), (5, .int (nI b)), (3, .int (nI hm)), (0, .ref o), (1, .int (nI i)), (2, .int (nI j))] := hl
              refine lv_aload_n hx hb dX0_fork_75 rfl (lv_at hl 4 rfl) ?_
              refine va_get (D := (dC, dI)) (ci := 0) (v := .ref (q 0)) (C := RX0) (T := TX0) (N := 9) hx hb hts hin0 hown hK hP 0 rfl rfl 0 (by decide) fl9 (fun _ h9 => h9) rfl dX0_fork_76 ?_
              refine lv_iload hx hb dX0_fork_79 (lv_at hl 2 rfl) ?_
              refine tk_rdi (v := nI (pa b)) hx hb hK hP 1 0 rfl rfl (b) (by omega) (by decide) v2 dX0_fork_81 ?_
              refine lv_istore hx hb dX0_fork_82 hl (by decide) rfl (fun ls hl => ?_)
              have hl : lv_has ls 7 [(5, .int (nI (pa b))), (4, .int (nI (pa a))), (6, .int (nI (hh + 1))), (3, .int (nI hm)), (0, .ref o), (1, .int (nI i)), (2, .int (nI j))] := hl
              refine lv_iinc (k := 2) (v := nI hh) hx hb dX0_fork_84 hl rfl (tk_dec hh) (by decide) rfl (fun ls hl => ?_)
              have hl : lv_has ls 7 [(6, .int (nI hh)), (5, .int (nI (pa b))), (4, .int (nI (pa a))), (3, .int (nI hm)), (0, .ref o), (1, .int (nI i)), (2, .int (nI j))] := hl
              refine lv_goto (tgt := 54) hx hb dX0_fork_87 (by decide) ?_
              exact ih (pa a) (pa b) ls (by omega) (by omega) (by omega) (by omega) ((tk_fk_f e63).symm.trans hz) hl
      exact loop hm _ _ ls (by omega) (by omega) (by omega) (by omega) hzq hl
    · refine lv_bipush (v := -2) hx hb dX0_fork_16 (by decide +kernel) ?_
      subst hQ
      exact tk_iret hx hb hr hlocks (tk_fr1 hc13).symm dX0_fork_18
