set_option maxHeartbeats 4000000 in
set_option maxRecDepth 100000 in
theorem c0_add (l : Launch) (dC : Nat → ClassId) (dI : Nat → Nat → Nat) (o : Nat) (q : Nat → Nat) (ca : Nat → ClassId) (aP aH aT aA aG aK aZ aS : Nat → Int32) (n : Nat) (sz : Nat) (pa he : Nat → Nat) (hT : tk_I aP aH pa he n) (wk : Nat → Nat) (hW : tk_Wk aK wk n) (hG : tk_G aG n) (hZ01 : ∀ i, i < n → aZ i = 0 ∨ aZ i = 1) (b tm ar : Int32) : Met l yX0_add wsX0_add ({ frames := 3, cells := 0, slots := 0, locals := 60 }) (tk_Wp (dC, dI) (tk_w0 o q ca aP aH aT aA aG aK aZ aS n) (tk_t0 ca) sz [.ref o, .int b, .int tm, .int ar]) (va_Qi (fun (r : Int32) (u : va_W) => (tk_ex n b = 0 ∧ r = -1 ∧ u = tk_w0 o q ca aP aH aT aA aG aK aZ aS n) ∨ (∃ j, j < n ∧ b = nI j ∧ (((tm ≤ tk_med pa he aT j aS ∨ ¬ 0 ≤ ar) ∧ r = -1 ∧ u = tk_w0 o q ca aP aH aT aA aG aK aZ (tk_mS pa he aT j aS) n) ∨ ((¬ tm ≤ tk_med pa he aT j aS ∧ 0 ≤ ar) ∧ ((n = 512 ∧ r = -3 ∧ u = tk_w0 o q ca aP aH aT aA aG aK aZ (tk_mS pa he aT j aS) n) ∨ (n < 512 ∧ r = nI n ∧ ∃ g, 2048 ≤ g ∧ g ≤ 65535 ∧ tk_tb pa he aT aG j = nI g ∧ u = tk_w0 o q ca (upd aP n (nI j)) (upd aH n (nI (he j + 1))) (upd aT n tm) (upd aA n ar) (upd aG n (nI g)) (upd aK n (nI (wk j + 16777216 / g))) (upd aZ n (aZ j)) (tk_mS pa he aT j aS) (n + 1))))))) (tk_E (dC, dI) (tk_t0 ca) (va_A (tk_w0 o q ca aP aH aT aA aG aK aZ aS n) sz)) (va_A (tk_w0 o q ca aP aH aT aA aG aK aZ aS n) sz)) 0 0 (va_A (tk_w0 o q ca aP aH aT aA aG aK aZ aS n) sz) := by
  refine Met.ofW (cc := cX0_add) (maxL := 6) (ret := (some .int)) (by decide) rfl ?_
  intro p e s m args below meth c s₁ B hml hv
  obtain ⟨rfl, hsz, hP, hK, hD0⟩ := hv
  have hx := B.exec
  have hb := B.bytes
  have hr := B.returns
  have hts := atoms_spec (ws := wsX0_add) B.pre
  have hown : s.vm.findClass RX0 = some m.cls := findClass_of_methodNamed B.named
  have hlocks := B.notSynchronized
  have hin0 : ∀ w ∈ u_ws RX0 TX0 9, w ∈ wsX0_add := by decide +kernel
  have fl36 := hts (.fieldLink RX0 36 "WorkTree" "count" "I") (by decide +kernel)
  have fl9 := hts (.fieldLink RX0 9 "WorkTree" "parents" "[I") (by decide +kernel)
  have fl13 := hts (.fieldLink RX0 13 "WorkTree" "heights" "[I") (by decide +kernel)
  have fl16 := hts (.fieldLink RX0 16 "WorkTree" "times" "[I") (by decide +kernel)
  have fl19 := hts (.fieldLink RX0 19 "WorkTree" "arrivals" "[I") (by decide +kernel)
  have fl22 := hts (.fieldLink RX0 22 "WorkTree" "targets" "[I") (by decide +kernel)
  have fl25 := hts (.fieldLink RX0 25 "WorkTree" "works" "[I") (by decide +kernel)
  have kc51 := hts (.constant RX0 51 (16777216)) (by decide +kernel)
  have fl28 := hts (.fieldLink RX0 28 "WorkTree" "wrong" "[Z") (by decide +kernel)
  subst hsz
  have hD := hD0.self (sz := s.heap.size)
  generalize hAe : va_A (tk_w0 o q ca aP aH aT aA aG aK aZ aS n) s.heap.size = A at hD ⊢
  have hA : ∀ q : Nat, s.heap.size ≤ q → A q := fun q h => by rw [← hAe]; exact Or.inr h
  have hS : va_S A s.heap s.heap [] := va_S.rf
  have hl := lv_entry ([.ref o, .int b, .int tm, .int ar]) (n := 6) (Nat.le_of_ble_eq_true rfl)
  rw [lg_entry_eq]
  generalize (lg_sl ([.ref o, .int b, .int tm, .int ar]) ++ List.replicate (6 - (lg_sl ([.ref o, .int b, .int tm, .int ar])).length) Slot.unset).toArray = ls at hl ⊢
  have hl : lv_has ls 6 [(0, .ref o), (1, .int b), (2, .int tm), (3, .int ar)] := hl
  refine tk_Q (fun Q hQ => ?_)
  have hn := hT.1.2
  refine lv_aload_n hx hb dX0_add_0 rfl (lv_at hl 0 rfl) ?_
  refine lv_iload_n hx hb dX0_add_1 rfl (lv_at hl 1 rfl) ?_
  refine vp_callSi (W.runV (As := [.int b]) (rest := []) ⟨hx, hb, hml, hown, hts⟩ (c0_exists l dC dI o q ca aP aH aT aA aG aK aZ aS n b) (cwV 1 hts gX0_add_X0_exists rfl rfl rfl (by decide +kernel) ⟨Nat.le_of_ble_eq_true rfl, Nat.le_of_ble_eq_true rfl⟩) (tk_pre hK hP rfl rfl) rfl rfl hl.1 rfl (lv_room (Nat.le_of_ble_eq_true rfl)) dX0_add_2 ⟨Nat.le_of_ble_eq_true rfl, Nat.le_of_ble_eq_true rfl⟩) (fun r hr1 => ?_)
  refine tk_top (y := tk_ex n b) hr1 ?_
  refine lv_if_eq (tgt := 21) hx hb dX0_add_5 (by decide) (fun hc5 => ?_) (fun hc5 => ?_)
  · refine lv_iconst (v := -1) hx hb dX0_add_21 (by decide +kernel) ?_
    subst hQ
    exact W.iret hx hb hr (fun t ht hW => ⟨⟨-1, tk_w0 o q ca aP aH aT aA aG aK aZ aS n, rfl, (Or.inl ⟨hc5, rfl, rfl⟩), by rw [ht]; exact hP, va_K.moved hW.alike hK, hD⟩, hS.F ht⟩) hS.2.2 dX0_add_22
  · obtain ⟨j, hj, rfl⟩ := tk_ex_t hn hc5
    have hjj := (hT.2.2.2.1 j hj).2
    have hwj := (hW j hj).2
    obtain ⟨g, hg1, hg2, hg⟩ := tk_tb_in (pa := pa) (he := he) (aT := aT) hG hj
    refine lv_iload_n hx hb dX0_add_8 rfl (lv_at hl 2 rfl) ?_
    refine lv_aload_n hx hb dX0_add_9 rfl (lv_at hl 0 rfl) ?_
    refine lv_iload_n hx hb dX0_add_10 rfl (lv_at hl 1 rfl) ?_
    have hFc := va_free (wc := tk_w0 o q ca aP aH aT aA aG aK aZ aS n) hD hS hA [0, 1, 2, 3, 4, 5, 6, 7, 8] rfl
    refine va_calli (va_runV (As := [.int (nI j)]) (rest := [.int tm]) ⟨hx, hb, hml, hown, hts⟩ (c0_medianTime l dC dI o q ca aP aH aT aA aG aK aZ aS n _ pa he hT j hj) (cwV 1 hts gX0_add_X0_medianTime rfl rfl rfl (by decide +kernel) ⟨Nat.le_of_ble_eq_true rfl, Nat.le_of_ble_eq_true rfl⟩) (tk_preW hK hP hD rfl rfl) rfl rfl hl.1 rfl (lv_room (Nat.le_of_ble_eq_true rfl)) dX0_add_11 ⟨Nat.le_of_ble_eq_true rfl, Nat.le_of_ble_eq_true rfl⟩) hS (fun q _ h => hFc q h) hFc (fun r u t Hp locs ht hvm hw hB hz1 hk1 hS => ?_)
    obtain ⟨hr1, hw⟩ := hw
    subst hw
    obtain ⟨hP, hK1, hD1⟩ := hB
    rw [ht] at hP
    have hD : va_D A (tk_w0 o q ca aP aH aT aA aG aK aZ (tk_mS pa he aT j aS) n) := hD1.weaken (fun _ _ _ h => hFc _ h)
    refine tk_top (y := tk_med pa he aT j aS) hr1 ?_
    refine lv_icmp_le (tgt := 21) hx hb dX0_add_14 (by decide) (fun hc14 => ?_) (fun hc14 => ?_)
    · refine lv_iconst (v := -1) hx hb dX0_add_21 (by decide +kernel) ?_
      subst hQ
      exact W.iret hx hb hr (fun t ht hW => ⟨⟨-1, tk_w0 o q ca aP aH aT aA aG aK aZ (tk_mS pa he aT j aS) n, rfl, (Or.inr ⟨j, hj, rfl, Or.inl ⟨Or.inl hc14, rfl, rfl⟩⟩), by rw [ht]; exact hP, va_K.moved hW.alike hK, hD⟩, hS.F ht⟩) hS.2.2 dX0_add_22
    · refine lv_iload_n hx hb dX0_add_17 rfl (lv_at hl 3 rfl) ?_
      refine lv_if_ge (tgt := 23) hx hb dX0_add_18 (by decide) (fun hc18 => ?_) (fun hc18 => ?_)
      · refine lv_aload_n hx hb dX0_add_23 rfl (lv_at hl 0 rfl) ?_
        refine va_get (D := (dC, dI)) (ci := 0) (v := .int (nI n)) (C := RX0) (T := TX0) (N := 9) hx hb hts hin0 hown hK hP 0 rfl rfl 8 (by decide) fl36 (fun _ h9 => h9) rfl dX0_add_24 ?_
        refine lv_sipush (v := nI 512) hx hb dX0_add_27 (by decide +kernel) ?_
        refine lv_icmp_lt (tgt := 36) hx hb dX0_add_30 (by decide) (fun hc30 => ?_) (fun hc30 => ?_)
        · have e30 := (nI_ltI (by omega) (by decide)).mp hc30
          refine lv_aload_n hx hb dX0_add_36 rfl (lv_at hl 0 rfl) ?_
          refine va_get (D := (dC, dI)) (ci := 0) (v := .int (nI n)) (C := RX0) (T := TX0) (N := 9) hx hb hts hin0 hown hK hP 0 rfl rfl 8 (by decide) fl36 (fun _ h9 => h9) rfl dX0_add_37 ?_
          refine lv_istore hx hb dX0_add_40 hl (by decide) rfl (fun ls hl => ?_)
          have hl : lv_has ls 6 [(4, .int (nI n)), (0, .ref o), (1, .int (nI j)), (2, .int tm), (3, .int ar)] := hl
          refine lv_aload_n hx hb dX0_add_42 rfl (lv_at hl 1 rfl) ?_
          refine lv_iload_n hx hb dX0_add_43 rfl (lv_at hl 2 rfl) ?_
          refine vp_callSi (W.runV (As := [.int (nI j)]) (rest := []) ⟨hx, hb, hml, hown, hts⟩ (c0_targetBehind l dC dI o q ca aP aH aT aA aG aK aZ (tk_mS pa he aT j aS) n pa he hT j hj) (cwV 1 hts gX0_add_X0_targetBehind rfl rfl rfl (by decide +kernel) ⟨Nat.le_of_ble_eq_true rfl, Nat.le_of_ble_eq_true rfl⟩) (tk_pre hK hP rfl rfl) rfl rfl hl.1 rfl (lv_room (Nat.le_of_ble_eq_true rfl)) dX0_add_44 ⟨Nat.le_of_ble_eq_true rfl, Nat.le_of_ble_eq_true rfl⟩) (fun r hr1 => ?_)
          refine tk_top (y := tk_tb pa he aT aG j) hr1 ?_
          refine tk_top (y := nI g) hg ?_
          refine lv_istore hx hb dX0_add_47 hl (by decide) rfl (fun ls hl => ?_)
          have hl : lv_has ls 6 [(5, .int (nI g)), (4, .int (nI n)), (0, .ref o), (1, .int (nI j)), (2, .int tm), (3, .int ar)] := hl
          refine lv_aload_n hx hb dX0_add_49 rfl (lv_at hl 2 rfl) ?_
          refine va_get (D := (dC, dI)) (ci := 0) (v := .ref (q 0)) (C := RX0) (T := TX0) (N := 9) hx hb hts hin0 hown hK hP 0 rfl rfl 0 (by decide) fl9 (fun _ h9 => h9) rfl dX0_add_50 ?_
          refine lv_iload hx hb dX0_add_53 (lv_at hl 1 rfl) ?_
          refine lv_iload_n hx hb dX0_add_55 rfl (lv_at hl 3 rfl) ?_
          refine tk_sti hx hb hK hP hD hS 1 0 rfl rfl n (by omega) (by decide) dX0_add_56 (fun Hp locs hP hD hS => ?_)
          have hP : va_P (dC, dI) vwCl (tk_w0 o q ca (upd aP n (nI j)) aH aT aA aG aK aZ (tk_mS pa he aT j aS) n) Hp := hP
          have hD : va_D A (tk_w0 o q ca (upd aP n (nI j)) aH aT aA aG aK aZ (tk_mS pa he aT j aS) n) := hD
          refine lv_aload_n hx hb dX0_add_57 rfl (lv_at hl 2 rfl) ?_
          refine va_get (D := (dC, dI)) (ci := 0) (v := .ref (q 1)) (C := RX0) (T := TX0) (N := 9) hx hb hts hin0 hown hK hP 0 rfl rfl 1 (by decide) fl13 (fun _ h9 => h9) rfl dX0_add_58 ?_
          refine lv_iload hx hb dX0_add_61 (lv_at hl 1 rfl) ?_
          refine lv_aload_n hx hb dX0_add_63 rfl (lv_at hl 2 rfl) ?_
          refine va_get (D := (dC, dI)) (ci := 0) (v := .ref (q 1)) (C := RX0) (T := TX0) (N := 9) hx hb hts hin0 hown hK hP 0 rfl rfl 1 (by decide) fl13 (fun _ h9 => h9) rfl dX0_add_64 ?_
          refine lv_iload_n hx hb dX0_add_67 rfl (lv_at hl 3 rfl) ?_
          refine tk_rdi (v := nI (he j)) hx hb hK hP 2 1 rfl rfl (j) (by omega) (by decide) (hT.2.2.2.1 j hj).1 dX0_add_68 ?_
          refine lv_iconst (v := nI 1) hx hb dX0_add_69 (by decide +kernel) ?_
          refine lv_iadd hx hb dX0_add_70 ?_
          refine tk_top (y := nI (he j + 1)) (tk_add1 _) ?_
          refine tk_sti hx hb hK hP hD hS 2 1 rfl rfl n (by omega) (by decide) dX0_add_71 (fun Hp locs hP hD hS => ?_)
          have hP : va_P (dC, dI) vwCl (tk_w0 o q ca (upd aP n (nI j)) (upd aH n (nI (he j + 1))) aT aA aG aK aZ (tk_mS pa he aT j aS) n) Hp := hP
          have hD : va_D A (tk_w0 o q ca (upd aP n (nI j)) (upd aH n (nI (he j + 1))) aT aA aG aK aZ (tk_mS pa he aT j aS) n) := hD
          refine lv_aload_n hx hb dX0_add_72 rfl (lv_at hl 2 rfl) ?_
          refine va_get (D := (dC, dI)) (ci := 0) (v := .ref (q 2)) (C := RX0) (T := TX0) (N := 9) hx hb hts hin0 hown hK hP 0 rfl rfl 2 (by decide) fl16 (fun _ h9 => h9) rfl dX0_add_73 ?_
          refine lv_iload hx hb dX0_add_76 (lv_at hl 1 rfl) ?_
          refine lv_iload_n hx hb dX0_add_78 rfl (lv_at hl 4 rfl) ?_
          refine tk_sti hx hb hK hP hD hS 3 2 rfl rfl n (by omega) (by decide) dX0_add_79 (fun Hp locs hP hD hS => ?_)
          have hP : va_P (dC, dI) vwCl (tk_w0 o q ca (upd aP n (nI j)) (upd aH n (nI (he j + 1))) (upd aT n tm) aA aG aK aZ (tk_mS pa he aT j aS) n) Hp := hP
          have hD : va_D A (tk_w0 o q ca (upd aP n (nI j)) (upd aH n (nI (he j + 1))) (upd aT n tm) aA aG aK aZ (tk_mS pa he aT j aS) n) := hD
          refine lv_aload_n hx hb dX0_add_80 rfl (lv_at hl 2 rfl) ?_
          refine va_get (D := (dC, dI)) (ci := 0) (v := .ref (q 3)) (C := RX0) (T := TX0) (N := 9) hx hb hts hin0 hown hK hP 0 rfl rfl 3 (by decide) fl19 (fun _ h9 => h9) rfl dX0_add_81 ?_
          refine lv_iload hx hb dX0_add_84 (lv_at hl 1 rfl) ?_
          refine lv_iload_n hx hb dX0_add_86 rfl (lv_at hl 5 rfl) ?_
          refine tk_sti hx hb hK hP hD hS 4 3 rfl rfl n (by omega) (by decide) dX0_add_87 (fun Hp locs hP hD hS => ?_)
          have hP : va_P (dC, dI) vwCl (tk_w0 o q ca (upd aP n (nI j)) (upd aH n (nI (he j + 1))) (upd aT n tm) (upd aA n ar) aG aK aZ (tk_mS pa he aT j aS) n) Hp := hP
          have hD : va_D A (tk_w0 o q ca (upd aP n (nI j)) (upd aH n (nI (he j + 1))) (upd aT n tm) (upd aA n ar) aG aK aZ (tk_mS pa he aT j aS) n) := hD
          refine lv_aload_n hx hb dX0_add_88 rfl (lv_at hl 2 rfl) ?_
          refine va_get (D := (dC, dI)) (ci := 0) (v := .ref (q 4)) (C := RX0) (T := TX0) (N := 9) hx hb hts hin0 hown hK hP 0 rfl rfl 4 (by decide) fl22 (fun _ h9 => h9) rfl dX0_add_89 ?_
          refine lv_iload hx hb dX0_add_92 (lv_at hl 1 rfl) ?_
          refine lv_iload hx hb dX0_add_94 (lv_at hl 0 rfl) ?_
          refine tk_sti hx hb hK hP hD hS 5 4 rfl rfl n (by omega) (by decide) dX0_add_96 (fun Hp locs hP hD hS => ?_)
          have hP : va_P (dC, dI) vwCl (tk_w0 o q ca (upd aP n (nI j)) (upd aH n (nI (he j + 1))) (upd aT n tm) (upd aA n ar) (upd aG n (nI g)) aK aZ (tk_mS pa he aT j aS) n) Hp := hP
          have hD : va_D A (tk_w0 o q ca (upd aP n (nI j)) (upd aH n (nI (he j + 1))) (upd aT n tm) (upd aA n ar) (upd aG n (nI g)) aK aZ (tk_mS pa he aT j aS) n) := hD
          refine lv_aload_n hx hb dX0_add_97 rfl (lv_at hl 2 rfl) ?_
          refine va_get (D := (dC, dI)) (ci := 0) (v := .ref (q 5)) (C := RX0) (T := TX0) (N := 9) hx hb hts hin0 hown hK hP 0 rfl rfl 5 (by decide) fl25 (fun _ h9 => h9) rfl dX0_add_98 ?_
          refine lv_iload hx hb dX0_add_101 (lv_at hl 1 rfl) ?_
          refine lv_aload_n hx hb dX0_add_103 rfl (lv_at hl 2 rfl) ?_
          refine va_get (D := (dC, dI)) (ci := 0) (v := .ref (q 5)) (C := RX0) (T := TX0) (N := 9) hx hb hts hin0 hown hK hP 0 rfl rfl 5 (by decide) fl25 (fun _ h9 => h9) rfl dX0_add_104 ?_
          refine lv_iload_n hx hb dX0_add_107 rfl (lv_at hl 3 rfl) ?_
          refine tk_rdi (v := nI (wk j)) hx hb hK hP 6 5 rfl rfl (j) (by omega) (by decide) (hW j hj).1 dX0_add_108 ?_
          refine lv_ldc (v := 16777216) hx hb hown kc51 dX0_add_109 ?_
          refine tk_top (y := nI 16777216) (by decide +kernel) ?_
          refine lv_iload hx hb dX0_add_111 (lv_at hl 0 rfl) ?_
          refine lv_idiv hx hb dX0_add_113 (fun z => absurd ((tk_eq0 (by omega)).mp z) (by omega)) ?_
          refine tk_top (y := nI (16777216 / g)) (pk_div (by decide) (by omega) (by omega)) ?_
          refine lv_iadd hx hb dX0_add_114 ?_
          refine tk_top (y := nI (wk j + 16777216 / g)) (nI_add _ _) ?_
          refine tk_sti hx hb hK hP hD hS 6 5 rfl rfl n (by omega) (by decide) dX0_add_115 (fun Hp locs hP hD hS => ?_)
          have hP : va_P (dC, dI) vwCl (tk_w0 o q ca (upd aP n (nI j)) (upd aH n (nI (he j + 1))) (upd aT n tm) (upd aA n ar) (upd aG n (nI g)) (upd aK n (nI (wk j + 16777216 / g))) aZ (tk_mS pa he aT j aS) n) Hp := hP
          have hD : va_D A (tk_w0 o q ca (upd aP n (nI j)) (upd aH n (nI (he j + 1))) (upd aT n tm) (upd aA n ar) (upd aG n (nI g)) (upd aK n (nI (wk j + 16777216 / g))) aZ (tk_mS pa he aT j aS) n) := hD
          refine lv_aload_n hx hb dX0_add_116 rfl (lv_at hl 2 rfl) ?_
          refine va_get (D := (dC, dI)) (ci := 0) (v := .ref (q 6)) (C := RX0) (T := TX0) (N := 9) hx hb hts hin0 hown hK hP 0 rfl rfl 6 (by decide) fl28 (fun _ h9 => h9) rfl dX0_add_117 ?_
          refine lv_iload hx hb dX0_add_120 (lv_at hl 1 rfl) ?_
          refine lv_aload_n hx hb dX0_add_122 rfl (lv_at hl 2 rfl) ?_
          refine va_get (D := (dC, dI)) (ci := 0) (v := .ref (q 6)) (C := RX0) (T := TX0) (N := 9) hx hb hts hin0 hown hK hP 0 rfl rfl 6 (by decide) fl28 (fun _ h9 => h9) rfl dX0_add_123 ?_
          refine lv_iload_n hx hb dX0_add_126 rfl (lv_at hl 3 rfl) ?_
          refine tk_rdz (v := aZ j) hx hb hK hP 7 6 rfl rfl (j) (by omega) (by decide) rfl dX0_add_127 ?_
          refine tk_stz (x' := aZ j) hx hb hK hP hD hS 7 6 rfl rfl n (by omega) (by decide) (tk_nar (hZ01 j hj)) dX0_add_128 (fun Hp locs hP hD hS => ?_)
          have hP : va_P (dC, dI) vwCl (tk_w0 o q ca (upd aP n (nI j)) (upd aH n (nI (he j + 1))) (upd aT n tm) (upd aA n ar) (upd aG n (nI g)) (upd aK n (nI (wk j + 16777216 / g))) (upd aZ n (aZ j)) (tk_mS pa he aT j aS) n) Hp := hP
          have hD : va_D A (tk_w0 o q ca (upd aP n (nI j)) (upd aH n (nI (he j + 1))) (upd aT n tm) (upd aA n ar) (upd aG n (nI g)) (upd aK n (nI (wk j + 16777216 / g))) (upd aZ n (aZ j)) (tk_mS pa he aT j aS) n) := hD
          refine lv_aload_n hx hb dX0_add_129 rfl (lv_at hl 2 rfl) ?_
          refine lv_dup hx hb dX0_add_130 rfl ?_
          refine va_get (D := (dC, dI)) (ci := 0) (v := .int (nI n)) (C := RX0) (T := TX0) (N := 9) hx hb hts hin0 hown hK hP 0 rfl rfl 8 (by decide) fl36 (fun _ h9 => h9) rfl dX0_add_131 ?_
          refine lv_iconst (v := nI 1) hx hb dX0_add_134 (by decide +kernel) ?_
          refine lv_iadd hx hb dX0_add_135 ?_
          refine tk_top (y := nI (n + 1)) (tk_add1 n) ?_
          refine va_put (D := (dC, dI)) (ci := 0) (v := .int (nI (n + 1))) (ty := .int) (C := RX0) (T := TX0) (N := 9) hx hb hts hin0 tyX0 tyX0_ok nmX0 hown hK hP hD hS 0 rfl rfl 8 (by decide) fl36 (fun _ h9 => h9) rfl (by decide +kernel) rfl rfl (Nat.le_of_ble_eq_true rfl) dX0_add_136 (fun Hp locs hP hD hS => ?_)
          have hP : va_P (dC, dI) vwCl (tk_w0 o q ca (upd aP n (nI j)) (upd aH n (nI (he j + 1))) (upd aT n tm) (upd aA n ar) (upd aG n (nI g)) (upd aK n (nI (wk j + 16777216 / g))) (upd aZ n (aZ j)) (tk_mS pa he aT j aS) (n + 1)) Hp := hP
          have hD : va_D A (tk_w0 o q ca (upd aP n (nI j)) (upd aH n (nI (he j + 1))) (upd aT n tm) (upd aA n ar) (upd aG n (nI g)) (upd aK n (nI (wk j + 16777216 / g))) (upd aZ n (aZ j)) (tk_mS pa he aT j aS) (n + 1)) := hD
          refine lv_iload hx hb dX0_add_139 (lv_at hl 1 rfl) ?_
          subst hQ
          exact W.iret hx hb hr (fun t ht hW => ⟨⟨nI n, tk_w0 o q ca (upd aP n (nI j)) (upd aH n (nI (he j + 1))) (upd aT n tm) (upd aA n ar) (upd aG n (nI g)) (upd aK n (nI (wk j + 16777216 / g))) (upd aZ n (aZ j)) (tk_mS pa he aT j aS) (n + 1), rfl, (Or.inr ⟨j, hj, rfl, Or.inr ⟨⟨hc14, hc18⟩, Or.inr ⟨e30, rfl, g, hg1, hg2, hg, rfl⟩⟩⟩), by rw [ht]; exact hP, va_K.moved hW.alike hK, hD⟩, hS.F ht⟩) hS.2.2 dX0_add_141
        · have e30 : ¬ n < 512 := fun z => hc30 ((nI_ltI (by omega) (by decide)).mpr z)
          refine lv_bipush (v := -3) hx hb dX0_add_33 (by decide +kernel) ?_
          subst hQ
          exact W.iret hx hb hr (fun t ht hW => ⟨⟨-3, tk_w0 o q ca aP aH aT aA aG aK aZ (tk_mS pa he aT j aS) n, rfl, (Or.inr ⟨j, hj, rfl, Or.inr ⟨⟨hc14, hc18⟩, Or.inl ⟨by omega, rfl, rfl⟩⟩⟩), by rw [ht]; exact hP, va_K.moved hW.alike hK, hD⟩, hS.F ht⟩) hS.2.2 dX0_add_35
      · refine lv_iconst (v := -1) hx hb dX0_add_21 (by decide +kernel) ?_
        subst hQ
        exact W.iret hx hb hr (fun t ht hW => ⟨⟨-1, tk_w0 o q ca aP aH aT aA aG aK aZ (tk_mS pa he aT j aS) n, rfl, (Or.inr ⟨j, hj, rfl, Or.inl ⟨Or.inr hc18, rfl, rfl⟩⟩), by rw [ht]; exact hP, va_K.moved hW.alike hK, hD⟩, hS.F ht⟩) hS.2.2 dX0_add_22
