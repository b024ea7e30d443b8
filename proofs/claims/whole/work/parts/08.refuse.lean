set_option maxHeartbeats 4000000 in
set_option maxRecDepth 100000 in
theorem c0_refuse (l : Launch) (dC : Nat → ClassId) (dI : Nat → Nat → Nat) (o : Nat) (q : Nat → Nat) (ca : Nat → ClassId) (aP aH aT aA aG aK aZ aS : Nat → Int32) (n : Nat) (sz : Nat) (pa he : Nat → Nat) (hT : tk_I aP aH pa he n) (wk : Nat → Nat) (hW : tk_Wk aK wk n) (b : Int32) : Met l yX0_refuse wsX0_refuse ({ frames := 2, cells := 0, slots := 0, locals := 44 }) (tk_Wp (dC, dI) (tk_w0 o q ca aP aH aT aA aG aK aZ aS n) (tk_t0 ca) sz [.ref o, .int b]) (va_Qi (fun (r : Int32) (u : va_W) => ((tk_ex n b = 0 ∨ b = 0) ∧ r = -1 ∧ u = tk_w0 o q ca aP aH aT aA aG aK aZ aS n) ∨ (∃ j, 0 < j ∧ j < n ∧ b = nI j ∧ r = nI (tk_best (tk_rf pa (n - (j + 1)) (j + 1) (upd aZ j 1)) aA wk n) ∧ u = tk_w0 o q ca aP aH aT aA aG aK (tk_rf pa (n - (j + 1)) (j + 1) (upd aZ j 1)) aS n)) (tk_E (dC, dI) (tk_t0 ca) (va_A (tk_w0 o q ca aP aH aT aA aG aK aZ aS n) sz)) (va_A (tk_w0 o q ca aP aH aT aA aG aK aZ aS n) sz)) 0 0 (va_A (tk_w0 o q ca aP aH aT aA aG aK aZ aS n) sz) := by
  refine Met.ofW (cc := cX0_refuse) (maxL := 3) (ret := (some .int)) (by decide) rfl ?_
  intro p e s m args below meth c s₁ B hml hv
  obtain ⟨rfl, hsz, hP, hK, hD0⟩ := hv
  have hx := B.exec
  have hb := B.bytes
  have hr := B.returns
  have hts := atoms_spec (ws := wsX0_refuse) B.pre
  have hown : s.vm.findClass RX0 = some m.cls := findClass_of_methodNamed B.named
  have hlocks := B.notSynchronized
  have hin0 : ∀ w ∈ u_ws RX0 TX0 9, w ∈ wsX0_refuse := by decide +kernel
  have fl28 := hts (.fieldLink RX0 28 "WorkTree" "wrong" "[Z") (by decide +kernel)
  have fl36 := hts (.fieldLink RX0 36 "WorkTree" "count" "I") (by decide +kernel)
  have fl9 := hts (.fieldLink RX0 9 "WorkTree" "parents" "[I") (by decide +kernel)
  subst hsz
  have hD := hD0.self (sz := s.heap.size)
  generalize hAe : va_A (tk_w0 o q ca aP aH aT aA aG aK aZ aS n) s.heap.size = A at hD ⊢
  have hA : ∀ q : Nat, s.heap.size ≤ q → A q := fun q h => by rw [← hAe]; exact Or.inr h
  have hS : va_S A s.heap s.heap [] := va_S.rf
  have hl := lv_entry ([.ref o, .int b]) (n := 3) (Nat.le_of_ble_eq_true rfl)
  rw [lg_entry_eq]
  generalize (lg_sl ([.ref o, .int b]) ++ List.replicate (3 - (lg_sl ([.ref o, .int b])).length) Slot.unset).toArray = ls at hl ⊢
  have hl : lv_has ls 3 [(0, .ref o), (1, .int b)] := hl
  refine tk_Q (fun Q hQ => ?_)
  have hn := hT.1.2
  have hn1 := hT.1.1
  refine lv_aload_n hx hb dX0_refuse_0 rfl (lv_at hl 0 rfl) ?_
  refine lv_iload_n hx hb dX0_refuse_1 rfl (lv_at hl 1 rfl) ?_
  refine vp_callSi (W.runV (As := [.int b]) (rest := []) ⟨hx, hb, hml, hown, hts⟩ (c0_exists l dC dI o q ca aP aH aT aA aG aK aZ aS n b) (cwV 1 hts gX0_refuse_X0_exists rfl rfl rfl (by decide +kernel) ⟨Nat.le_of_ble_eq_true rfl, Nat.le_of_ble_eq_true rfl⟩) (tk_pre hK hP rfl rfl) rfl rfl hl.1 rfl (lv_room (Nat.le_of_ble_eq_true rfl)) dX0_refuse_2 ⟨Nat.le_of_ble_eq_true rfl, Nat.le_of_ble_eq_true rfl⟩) (fun r hr1 => ?_)
  refine tk_top (y := tk_ex n b) hr1 ?_
  refine lv_if_eq (tgt := 12) hx hb dX0_refuse_5 (by decide) (fun hc5 => ?_) (fun hc5 => ?_)
  · refine lv_iconst (v := -1) hx hb dX0_refuse_12 (by decide +kernel) ?_
    subst hQ
    exact W.iret hx hb hr (fun t ht hW => ⟨⟨-1, tk_w0 o q ca aP aH aT aA aG aK aZ aS n, rfl, (Or.inl ⟨Or.inl hc5, rfl, rfl⟩), by rw [ht]; exact hP, va_K.moved hW.alike hK, hD⟩, hS.F ht⟩) hS.2.2 dX0_refuse_13
  · obtain ⟨j, hj, rfl⟩ := tk_ex_t hn hc5
    refine lv_iload_n hx hb dX0_refuse_8 rfl (lv_at hl 1 rfl) ?_
    refine lv_if_ne (tgt := 14) hx hb dX0_refuse_9 (by decide) (fun hc9 => ?_) (fun hc9 => ?_)
    · have hj0 : 0 < j := Nat.pos_of_ne_zero (fun z => hc9 ((tk_eq0 (by omega)).mpr z))
      refine lv_aload_n hx hb dX0_refuse_14 rfl (lv_at hl 0 rfl) ?_
      refine va_get (D := (dC, dI)) (ci := 0) (v := .ref (q 6)) (C := RX0) (T := TX0) (N := 9) hx hb hts hin0 hown hK hP 0 rfl rfl 6 (by decide) fl28 (fun _ h9 => h9) rfl dX0_refuse_15 ?_
      refine lv_iload_n hx hb dX0_refuse_18 rfl (lv_at hl 1 rfl) ?_
      refine lv_iconst (v := 1) hx hb dX0_refuse_19 (by decide +kernel) ?_
      refine tk_stz (x' := 1) hx hb hK hP hD hS 7 6 rfl rfl j (by omega) (by decide) rfl dX0_refuse_20 (fun Hp locs hP hD hS => ?_)
      have hP : va_P (dC, dI) vwCl (tk_w0 o q ca aP aH aT aA aG aK (upd aZ j 1) aS n) Hp := hP
      have hD : va_D A (tk_w0 o q ca aP aH aT aA aG aK (upd aZ j 1) aS n) := hD
      refine lv_iload_n hx hb dX0_refuse_21 rfl (lv_at hl 1 rfl) ?_
      refine lv_iconst (v := nI 1) hx hb dX0_refuse_22 (by decide +kernel) ?_
      refine lv_iadd hx hb dX0_refuse_23 ?_
      refine tk_top (y := nI (j + 1)) (tk_add1 j) ?_
      refine lv_istore_n hx hb dX0_refuse_24 rfl hl (by decide) rfl (fun ls hl => ?_)
      have hl : lv_has ls 3 [(2, .int (nI (j + 1))), (0, .ref o), (1, .int (nI j))] := hl
      obtain ⟨z, hzz⟩ : ∃ z, z = tk_rf pa (n - (j + 1)) (j + 1) (upd aZ j 1) := ⟨_, rfl⟩
      have loop : ∀ (c0 : Nat) (i : Nat) (Z : Nat → Int32) (Hp : Heap) (locs : List Loc) (ls : Array Slot), i + c0 = n → j < i → tk_rf pa c0 i Z = z → va_P (dC, dI) vwCl (tk_w0 o q ca aP aH aT aA aG aK Z aS n) Hp → va_D A (tk_w0 o q ca aP aH aT aA aG aK Z aS n) → va_S A s.heap Hp locs → lv_has ls 3 [(2, .int (nI i)), (0, .ref o), (1, .int (nI j))] → W p l e (headSpec wsX0_refuse ({ frames := 2, cells := 0, slots := 0, locals := 44 })).room s m ([.ref o, .int (nI j)] : List Value).toArray below meth c Hp locs 0 0 Q (F0 m 25 ls []) := by
        intro c0
        induction c0 with
        | zero =>
          intro i Z Hp locs ls hic hji hz hP hD hS hl
          refine lv_iload_n hx hb dX0_refuse_25 rfl (lv_at hl 0 rfl) ?_
          refine lv_aload_n hx hb dX0_refuse_26 rfl (lv_at hl 1 rfl) ?_
          refine va_get (D := (dC, dI)) (ci := 0) (v := .int (nI n)) (C := RX0) (T := TX0) (N := 9) hx hb hts hin0 hown hK hP 0 rfl rfl 8 (by decide) fl36 (fun _ h9 => h9) rfl dX0_refuse_27 ?_
          refine lv_icmp_ge (tgt := 60) hx hb dX0_refuse_30 (by decide) (fun hc30 => ?_) (fun hc30 => ?_)
          · refine lv_aload_n hx hb dX0_refuse_60 rfl (lv_at hl 1 rfl) ?_
            refine vp_callSi (W.runV (As := []) (rest := []) ⟨hx, hb, hml, hown, hts⟩ (c0_bestBlock l dC dI o q ca aP aH aT aA aG aK Z aS n wk hW hn hn1) (cwV 0 hts gX0_refuse_X0_bestBlock rfl rfl rfl (by decide +kernel) ⟨Nat.le_of_ble_eq_true rfl, Nat.le_of_ble_eq_true rfl⟩) (tk_pre hK hP rfl rfl) rfl rfl hl.1 rfl (lv_room (Nat.le_of_ble_eq_true rfl)) dX0_refuse_61 ⟨Nat.le_of_ble_eq_true rfl, Nat.le_of_ble_eq_true rfl⟩) (fun r hr1 => ?_)
            refine tk_top (y := nI (tk_best Z aA wk n)) hr1 ?_
            subst hQ
            exact W.iret hx hb hr (fun t ht hW => ⟨⟨nI (tk_best Z aA wk n), tk_w0 o q ca aP aH aT aA aG aK Z aS n, rfl, (Or.inr ⟨j, hj0, hj, rfl, congrArg (fun Z9 => nI (tk_best Z9 aA wk n)) (hz.trans hzz), congrArg (fun Z9 : Nat → Int32 => tk_w0 o q ca aP aH aT aA aG aK Z9 aS n) (hz.trans hzz)⟩), by rw [ht]; exact hP, va_K.moved hW.alike hK, hD⟩, hS.F ht⟩) hS.2.2 dX0_refuse_64
          · exact absurd (nI_le (by omega) (by omega)) hc30
        | succ c0 ih =>
          intro i Z Hp locs ls hic hji hz hP hD hS hl
          refine lv_iload_n hx hb dX0_refuse_25 rfl (lv_at hl 0 rfl) ?_
          refine lv_aload_n hx hb dX0_refuse_26 rfl (lv_at hl 1 rfl) ?_
          refine va_get (D := (dC, dI)) (ci := 0) (v := .int (nI n)) (C := RX0) (T := TX0) (N := 9) hx hb hts hin0 hown hK hP 0 rfl rfl 8 (by decide) fl36 (fun _ h9 => h9) rfl dX0_refuse_27 ?_
          refine lv_icmp_ge (tgt := 60) hx hb dX0_refuse_30 (by decide) (fun hc30 => ?_) (fun hc30 => ?_)
          · exact absurd hc30 (nI_ge (by omega) (by omega))
          · obtain ⟨u2, u3, u4⟩ := hT.2.2.2.2 i (by omega) (by omega)
            refine lv_aload_n hx hb dX0_refuse_33 rfl (lv_at hl 1 rfl) ?_
            refine va_get (D := (dC, dI)) (ci := 0) (v := .ref (q 6)) (C := RX0) (T := TX0) (N := 9) hx hb hts hin0 hown hK hP 0 rfl rfl 6 (by decide) fl28 (fun _ h9 => h9) rfl dX0_refuse_34 ?_
            refine lv_aload_n hx hb dX0_refuse_37 rfl (lv_at hl 1 rfl) ?_
            refine va_get (D := (dC, dI)) (ci := 0) (v := .ref (q 0)) (C := RX0) (T := TX0) (N := 9) hx hb hts hin0 hown hK hP 0 rfl rfl 0 (by decide) fl9 (fun _ h9 => h9) rfl dX0_refuse_38 ?_
            refine lv_iload_n hx hb dX0_refuse_41 rfl (lv_at hl 0 rfl) ?_
            refine tk_rdi (v := nI (pa i)) hx hb hK hP 1 0 rfl rfl (i) (by omega) (by decide) u2 dX0_refuse_42 ?_
            refine tk_rdz (v := Z (pa i)) hx hb hK hP 7 6 rfl rfl (pa i) (by omega) (by decide) rfl dX0_refuse_43 ?_
            refine lv_if_eq (tgt := 54) hx hb dX0_refuse_44 (by decide) (fun hc44 => ?_) (fun hc44 => ?_)
            · refine lv_iinc (k := 0) (v := nI (i + 1)) hx hb dX0_refuse_54 hl rfl (tk_inc i) (by decide) rfl (fun ls hl => ?_)
              have hl : lv_has ls 3 [(2, .int (nI (i + 1))), (0, .ref o), (1, .int (nI j))] := hl
              refine lv_goto (tgt := 25) hx hb dX0_refuse_57 (by decide) ?_
              exact ih (i + 1) _ Hp locs ls (by omega) (by omega) ((tk_rf_n hc44).symm.trans hz) hP hD hS hl
            · refine lv_aload_n hx hb dX0_refuse_47 rfl (lv_at hl 1 rfl) ?_
              refine va_get (D := (dC, dI)) (ci := 0) (v := .ref (q 6)) (C := RX0) (T := TX0) (N := 9) hx hb hts hin0 hown hK hP 0 rfl rfl 6 (by decide) fl28 (fun _ h9 => h9) rfl dX0_refuse_48 ?_
              refine lv_iload_n hx hb dX0_refuse_51 rfl (lv_at hl 0 rfl) ?_
              refine lv_iconst (v := 1) hx hb dX0_refuse_52 (by decide +kernel) ?_
              refine tk_stz (x' := 1) hx hb hK hP hD hS 7 6 rfl rfl i (by omega) (by decide) rfl dX0_refuse_53 (fun Hp locs hP hD hS => ?_)
              have hP : va_P (dC, dI) vwCl (tk_w0 o q ca aP aH aT aA aG aK (upd Z i 1) aS n) Hp := hP
              have hD : va_D A (tk_w0 o q ca aP aH aT aA aG aK (upd Z i 1) aS n) := hD
              refine lv_iinc (k := 0) (v := nI (i + 1)) hx hb dX0_refuse_54 hl rfl (tk_inc i) (by decide) rfl (fun ls hl => ?_)
              have hl : lv_has ls 3 [(2, .int (nI (i + 1))), (0, .ref o), (1, .int (nI j))] := hl
              refine lv_goto (tgt := 25) hx hb dX0_refuse_57 (by decide) ?_
              exact ih (i + 1) _ Hp locs ls (by omega) (by omega) ((tk_rf_y hc44).symm.trans hz) hP hD hS hl
      exact loop (n - (j + 1)) (j + 1) (upd aZ j 1) Hp locs ls (by omega) (by omega) hzz.symm hP hD hS hl
    · refine lv_iconst (v := -1) hx hb dX0_refuse_12 (by decide +kernel) ?_
      subst hQ
      exact W.iret hx hb hr (fun t ht hW => ⟨⟨-1, tk_w0 o q ca aP aH aT aA aG aK aZ aS n, rfl, (Or.inl ⟨Or.inr hc9, rfl, rfl⟩), by rw [ht]; exact hP, va_K.moved hW.alike hK, hD⟩, hS.F ht⟩) hS.2.2 dX0_refuse_13
