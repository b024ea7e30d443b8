set_option maxHeartbeats 4000000 in
set_option maxRecDepth 100000 in
theorem c1_median (l : Launch) (dC : Nat → ClassId) (dI : Nat → Nat → Nat) (o : Nat) (q : Nat → Nat) (ca : Nat → ClassId) (aP aH aT aG : Nat → Int32) (aL : Nat → Int64) (aA aF aS : Nat → Int32) (n : Nat) (sz : Nat) (pa he : Nat → Nat) (hT : tk_I aP aH pa he n) (b : Int32) : Met l yX1_median wsX1_median ({ frames := 1, cells := 0, slots := 0, locals := 21 }) (tk_Wp (dC, dI) (tk_w1 o q ca aP aH aT aG aL aA aF aS n) (tk_t1 ca) sz [.ref o, .int b]) (va_Qi (fun (r : Int32) (u : va_W) => r = tk_pb n b (fun j => tk_med pa he aT j aS) ∧ u = tk_w1 o q ca aP aH aT aG aL aA aF (tk_mb pa he aT n b aS) n) (tk_E (dC, dI) (tk_t1 ca) (va_A (tk_w1 o q ca aP aH aT aG aL aA aF aS n) sz)) (va_A (tk_w1 o q ca aP aH aT aG aL aA aF aS n) sz)) 0 0 (va_A (tk_w1 o q ca aP aH aT aG aL aA aF aS n) sz) := by
  refine Met.ofW (cc := cX1_median) (maxL := 5) (ret := (some .int)) (by decide) rfl ?_
  intro p e s m args below meth c s₁ B hml hv
  obtain ⟨rfl, hsz, hP, hK, hD0⟩ := hv
  have hx := B.exec
  have hb := B.bytes
  have hr := B.returns
  have hts := atoms_spec (ws := wsX1_median) B.pre
  have hown : s.vm.findClass RX1 = some m.cls := findClass_of_methodNamed B.named
  have hlocks := B.notSynchronized
  have hin0 : ∀ w ∈ u_ws RX1 TX1 9, w ∈ wsX1_median := by decide +kernel
  have fl33 := hts (.fieldLink RX1 33 "WorkTreeModel" "times" "[I") (by decide +kernel)
  have fl16 := hts (.fieldLink RX1 16 "WorkTreeModel" "time" "[I") (by decide +kernel)
  have fl9 := hts (.fieldLink RX1 9 "WorkTreeModel" "parent" "[I") (by decide +kernel)
  subst hsz
  have hD := hD0.self (sz := s.heap.size)
  generalize hAe : va_A (tk_w1 o q ca aP aH aT aG aL aA aF aS n) s.heap.size = A at hD ⊢
  have hA : ∀ q : Nat, s.heap.size ≤ q → A q := fun q h => by rw [← hAe]; exact Or.inr h
  have hS : va_S A s.heap s.heap [] := va_S.rf
  have hl := lv_entry ([.ref o, .int b]) (n := 5) (Nat.le_of_ble_eq_true rfl)
  rw [lg_entry_eq]
  generalize (lg_sl ([.ref o, .int b]) ++ List.replicate (5 - (lg_sl ([.ref o, .int b])).length) Slot.unset).toArray = ls at hl ⊢
  have hl : lv_has ls 5 [(0, .ref o), (1, .int b)] := hl
  refine tk_Q (fun Q hQ => ?_)
  have hn := hT.1.2
  refine lv_aload_n hx hb dX1_median_0 rfl (lv_at hl 0 rfl) ?_
  refine lv_iload_n hx hb dX1_median_1 rfl (lv_at hl 1 rfl) ?_
  refine vp_callSi (W.runV (As := [.int b]) (rest := []) ⟨hx, hb, hml, hown, hts⟩ (c1_is l dC dI o q ca aP aH aT aG aL aA aF aS n b) (cwV 1 hts gX1_median_X1_is rfl rfl rfl (by decide +kernel) ⟨Nat.le_of_ble_eq_true rfl, Nat.le_of_ble_eq_true rfl⟩) (tk_pre hK hP rfl rfl) rfl rfl hl.1 rfl (lv_room (Nat.le_of_ble_eq_true rfl)) dX1_median_2 ⟨Nat.le_of_ble_eq_true rfl, Nat.le_of_ble_eq_true rfl⟩) (fun r hr1 => ?_)
  refine tk_top (y := tk_ex n b) hr1 ?_
  refine lv_if_ne (tgt := 11) hx hb dX1_median_5 (by decide) (fun hc5 => ?_) (fun hc5 => ?_)
  · obtain ⟨j, hj, rfl⟩ := tk_ex_t hn hc5
    have hjj := (hT.2.2.2.1 j hj).2
    refine lv_iconst (v := nI 0) hx hb dX1_median_11 (by decide +kernel) ?_
    refine lv_istore_n hx hb dX1_median_12 rfl hl (by decide) rfl (fun ls hl => ?_)
    have hl : lv_has ls 5 [(2, .int (nI 0)), (0, .ref o), (1, .int (nI j))] := hl
    refine lv_iload_n hx hb dX1_median_13 rfl (lv_at hl 2 rfl) ?_
    refine lv_istore_n hx hb dX1_median_14 rfl hl (by decide) rfl (fun ls hl => ?_)
    have hl : lv_has ls 5 [(3, .int (nI j)), (2, .int (nI 0)), (0, .ref o), (1, .int (nI j))] := hl
    obtain ⟨mn1, mn2⟩ := tk_mn_le (a := he j + 1) (b := 7)
    have mn3 := tk_mn_or (he j + 1) 7
    have hmed : tk_med pa he aT j aS = tk_md pa aT (tk_mn (he j + 1) 7) 0 j aS (tk_mn (he j + 1) 7 / 2) := rfl
    have hmS : tk_mS pa he aT j aS = tk_md pa aT (tk_mn (he j + 1) 7) 0 j aS := rfl
    generalize tk_mn (he j + 1) 7 = md at hmed hmS mn1 mn2 mn3
    generalize hzz : tk_md pa aT md 0 j aS = z at hmed hmS
    have loop : ∀ (c0 : Nat) (f i : Nat) (x : Int32) (S : Nat → Int32) (Hp : Heap) (locs : List Loc) (ls : Array Slot), f + c0 = md → (0 < c0 → x = nI i ∧ i < n ∧ he i + f = he j) → (c0 = 0 → x < 0 ∨ f = 7) → tk_md pa aT c0 f i S = z → va_P (dC, dI) vwCl (tk_w1 o q ca aP aH aT aG aL aA aF S n) Hp → va_D A (tk_w1 o q ca aP aH aT aG aL aA aF S n) → va_S A s.heap Hp locs → lv_has ls 5 [(3, .int x), (2, .int (nI f)), (0, .ref o), (1, .int (nI j))] → W p l e (headSpec wsX1_median ({ frames := 1, cells := 0, slots := 0, locals := 21 })).room s m ([.ref o, .int (nI j)] : List Value).toArray below meth c Hp locs 0 0 Q (F0 m 15 ls []) := by
      intro c0
      induction c0 with
      | zero =>
        intro f i x S Hp locs ls hfc hxi hx0 hz hP hD hS hl
        obtain rfl : f = md := by omega
        refine lv_iload_n hx hb dX1_median_15 rfl (lv_at hl 0 rfl) ?_
        refine lv_if_lt (tgt := 99) hx hb dX1_median_16 (by decide) (fun hc16 => ?_) (fun hc16 => ?_)
        · refine lv_aload_n hx hb dX1_median_99 rfl (lv_at hl 2 rfl) ?_
          refine va_get (D := (dC, dI)) (ci := 1) (v := .ref (q 7)) (C := RX1) (T := TX1) (N := 9) hx hb hts hin0 hown hK hP 0 rfl rfl 7 (by decide) fl33 (fun _ h9 => h9) rfl dX1_median_100 ?_
          refine lv_iload_n hx hb dX1_median_103 rfl (lv_at hl 1 rfl) ?_
          refine lv_iconst (v := nI 2) hx hb dX1_median_104 (by decide +kernel) ?_
          refine lv_idiv hx hb dX1_median_105 (by decide +kernel) ?_
          refine tk_top (y := nI (f / 2)) (pk_div (by omega) (by decide) (by decide)) ?_
          refine tk_rdi (v := S (f / 2)) hx hb hK hP 8 7 rfl rfl (f / 2) (by omega) (by decide) rfl dX1_median_106 ?_
          subst hQ
          exact W.iret hx hb hr (fun t ht hW => ⟨⟨S (f / 2), tk_w1 o q ca aP aH aT aG aL aA aF S n, rfl, ⟨(show S (f / 2) = tk_pb n (nI j) (fun j => tk_med pa he aT j aS) from ((tk_pbn (f := fun j => tk_med pa he aT j aS) hn hj).trans (hmed.trans (congrFun hz.symm (f / 2)))).symm), (congrArg (fun S9 : Nat → Int32 => tk_w1 o q ca aP aH aT aG aL aA aF S9 n) (((tk_mbn hn hj).trans hmS).trans hz.symm).symm)⟩, by rw [ht]; exact hP, va_K.moved hW.alike hK, hD⟩, hS.F ht⟩) hS.2.2 dX1_median_107
        · refine lv_iload_n hx hb dX1_median_19 rfl (lv_at hl 1 rfl) ?_
          refine lv_bipush (v := nI 7) hx hb dX1_median_20 (by decide +kernel) ?_
          refine lv_icmp_ge (tgt := 99) hx hb dX1_median_22 (by decide) (fun hc22 => ?_) (fun hc22 => ?_)
          · refine lv_aload_n hx hb dX1_median_99 rfl (lv_at hl 2 rfl) ?_
            refine va_get (D := (dC, dI)) (ci := 1) (v := .ref (q 7)) (C := RX1) (T := TX1) (N := 9) hx hb hts hin0 hown hK hP 0 rfl rfl 7 (by decide) fl33 (fun _ h9 => h9) rfl dX1_median_100 ?_
            refine lv_iload_n hx hb dX1_median_103 rfl (lv_at hl 1 rfl) ?_
            refine lv_iconst (v := nI 2) hx hb dX1_median_104 (by decide +kernel) ?_
            refine lv_idiv hx hb dX1_median_105 (by decide +kernel) ?_
            refine tk_top (y := nI (f / 2)) (pk_div (by omega) (by decide) (by decide)) ?_
            refine tk_rdi (v := S (f / 2)) hx hb hK hP 8 7 rfl rfl (f / 2) (by omega) (by decide) rfl dX1_median_106 ?_
            subst hQ
            exact W.iret hx hb hr (fun t ht hW => ⟨⟨S (f / 2), tk_w1 o q ca aP aH aT aG aL aA aF S n, rfl, ⟨(show S (f / 2) = tk_pb n (nI j) (fun j => tk_med pa he aT j aS) from ((tk_pbn (f := fun j => tk_med pa he aT j aS) hn hj).trans (hmed.trans (congrFun hz.symm (f / 2)))).symm), (congrArg (fun S9 : Nat → Int32 => tk_w1 o q ca aP aH aT aG aL aA aF S9 n) (((tk_mbn hn hj).trans hmS).trans hz.symm).symm)⟩, by rw [ht]; exact hP, va_K.moved hW.alike hK, hD⟩, hS.F ht⟩) hS.2.2 dX1_median_107
          · rcases hx0 rfl with h9 | h9
            · exact absurd h9 hc16
            · exact absurd (nI_le (by omega) (by omega)) hc22
      | succ c0 ih =>
        intro f i x S Hp locs ls hfc hxi hx0 hz hP hD hS hl
        obtain ⟨rfl, hi, hei⟩ := hxi (by omega)
        have hii := (hT.2.2.2.1 i hi).2
        refine lv_iload_n hx hb dX1_median_15 rfl (lv_at hl 0 rfl) ?_
        refine lv_if_lt (tgt := 99) hx hb dX1_median_16 (by decide) (fun hc16 => ?_) (fun hc16 => ?_)
        · exact absurd hc16 (nI_pos (by omega))
        · refine lv_iload_n hx hb dX1_median_19 rfl (lv_at hl 1 rfl) ?_
          refine lv_bipush (v := nI 7) hx hb dX1_median_20 (by decide +kernel) ?_
          refine lv_icmp_ge (tgt := 99) hx hb dX1_median_22 (by decide) (fun hc22 => ?_) (fun hc22 => ?_)
          · exact absurd hc22 (nI_ge (by omega) (by omega))
          · refine lv_iload_n hx hb dX1_median_25 rfl (lv_at hl 1 rfl) ?_
            refine lv_istore hx hb dX1_median_26 hl (by decide) rfl (fun ls hl => ?_)
            have hl : lv_has ls 5 [(4, .int (nI f)), (3, .int (nI i)), (2, .int (nI f)), (0, .ref o), (1, .int (nI j))] := hl
            have loop2 : ∀ (k : Nat) (S2 : Nat → Int32) (Hp : Heap) (locs : List Loc) (ls : Array Slot), k < 7 → tk_md pa aT c0 (f + 1) (pa i) (tk_ins (aT i) k S2) = z → va_P (dC, dI) vwCl (tk_w1 o q ca aP aH aT aG aL aA aF S2 n) Hp → va_D A (tk_w1 o q ca aP aH aT aG aL aA aF S2 n) → va_S A s.heap Hp locs → lv_has ls 5 [(4, .int (nI k)), (3, .int (nI i)), (2, .int (nI f)), (0, .ref o), (1, .int (nI j))] → W p l e (headSpec wsX1_median ({ frames := 1, cells := 0, slots := 0, locals := 21 })).room s m ([.ref o, .int (nI j)] : List Value).toArray below meth c Hp locs 0 0 Q (F0 m 28 ls []) := by
              intro k
              induction k with
              | zero =>
                intro S2 Hp locs ls hk hz2 hP hD hS hl
                refine lv_iload hx hb dX1_median_28 (lv_at hl 0 rfl) ?_
                refine lv_if_le (tgt := 73) hx hb dX1_median_30 (by decide) (fun hc30 => ?_) (fun hc30 => ?_)
                · refine lv_aload_n hx hb dX1_median_73 rfl (lv_at hl 3 rfl) ?_
                  refine va_get (D := (dC, dI)) (ci := 1) (v := .ref (q 7)) (C := RX1) (T := TX1) (N := 9) hx hb hts hin0 hown hK hP 0 rfl rfl 7 (by decide) fl33 (fun _ h9 => h9) rfl dX1_median_74 ?_
                  refine lv_iload hx hb dX1_median_77 (lv_at hl 0 rfl) ?_
                  refine lv_aload_n hx hb dX1_median_79 rfl (lv_at hl 3 rfl) ?_
                  refine va_get (D := (dC, dI)) (ci := 1) (v := .ref (q 2)) (C := RX1) (T := TX1) (N := 9) hx hb hts hin0 hown hK hP 0 rfl rfl 2 (by decide) fl16 (fun _ h9 => h9) rfl dX1_median_80 ?_
                  refine lv_iload_n hx hb dX1_median_83 rfl (lv_at hl 1 rfl) ?_
                  refine tk_rdi (v := aT i) hx hb hK hP 3 2 rfl rfl (i) (by omega) (by decide) rfl dX1_median_84 ?_
                  refine tk_sti hx hb hK hP hD hS 8 7 rfl rfl 0 (by omega) (by decide) dX1_median_85 (fun Hp locs hP hD hS => ?_)
                  have hP : va_P (dC, dI) vwCl (tk_w1 o q ca aP aH aT aG aL aA aF (upd S2 0 (aT i)) n) Hp := hP
                  have hD : va_D A (tk_w1 o q ca aP aH aT aG aL aA aF (upd S2 0 (aT i)) n) := hD
                  refine lv_iinc (k := 2) (v := nI (f + 1)) hx hb dX1_median_86 hl rfl (tk_inc f) (by decide) rfl (fun ls hl => ?_)
                  have hl : lv_has ls 5 [(2, .int (nI (f + 1))), (4, .int (nI 0)), (3, .int (nI i)), (0, .ref o), (1, .int (nI j))] := hl
                  refine lv_aload_n hx hb dX1_median_89 rfl (lv_at hl 3 rfl) ?_
                  refine va_get (D := (dC, dI)) (ci := 1) (v := .ref (q 0)) (C := RX1) (T := TX1) (N := 9) hx hb hts hin0 hown hK hP 0 rfl rfl 0 (by decide) fl9 (fun _ h9 => h9) rfl dX1_median_90 ?_
                  refine lv_iload_n hx hb dX1_median_93 rfl (lv_at hl 2 rfl) ?_
                  refine tk_rdi (v := aP i) hx hb hK hP 1 0 rfl rfl (i) (by omega) (by decide) rfl dX1_median_94 ?_
                  refine lv_istore_n hx hb dX1_median_95 rfl hl (by decide) rfl (fun ls hl => ?_)
                  have hl : lv_has ls 5 [(3, .int (aP i)), (2, .int (nI (f + 1))), (4, .int (nI 0)), (0, .ref o), (1, .int (nI j))] := hl
                  refine lv_goto (tgt := 15) hx hb dX1_median_96 (by decide) ?_
                  have hl : lv_has ls 5 [(3, .int (aP i)), (2, .int (nI (f + 1))), (0, .ref o), (1, .int (nI j))] := lv_sub hl [0, 1, 3, 4] rfl
                  exact ih (f + 1) (pa i) (aP i) _ Hp locs ls (by omega) (fun h9 => by obtain ⟨u1, u2, u3, u4⟩ := tk_up hT hi (by omega); exact ⟨u2, by omega, by omega⟩) (fun h9 => by
                    rcases mn3 with h8 | h8
                    · left; rw [tk_h0 hT hi (by omega), hT.2.1]; decide
                    · right; omega) (hz2) hP hD hS hl
                · exact absurd ((tk_le0 (by omega)).mpr rfl) hc30
              | succ k ih2 =>
                intro S2 Hp locs ls hk hz2 hP hD hS hl
                refine lv_iload hx hb dX1_median_28 (lv_at hl 0 rfl) ?_
                refine lv_if_le (tgt := 73) hx hb dX1_median_30 (by decide) (fun hc30 => ?_) (fun hc30 => ?_)
                · exact absurd ((tk_le0 (by omega)).mp hc30) (by omega)
                · refine lv_aload_n hx hb dX1_median_33 rfl (lv_at hl 3 rfl) ?_
                  refine va_get (D := (dC, dI)) (ci := 1) (v := .ref (q 7)) (C := RX1) (T := TX1) (N := 9) hx hb hts hin0 hown hK hP 0 rfl rfl 7 (by decide) fl33 (fun _ h9 => h9) rfl dX1_median_34 ?_
                  refine lv_iload hx hb dX1_median_37 (lv_at hl 0 rfl) ?_
                  refine lv_iconst (v := nI 1) hx hb dX1_median_39 (by decide +kernel) ?_
                  refine lv_isub hx hb dX1_median_40 ?_
                  refine tk_top (y := nI k) (tk_sub1 k) ?_
                  refine tk_rdi (v := S2 k) hx hb hK hP 8 7 rfl rfl (k) (by omega) (by decide) rfl dX1_median_41 ?_
                  refine lv_aload_n hx hb dX1_median_42 rfl (lv_at hl 3 rfl) ?_
                  refine va_get (D := (dC, dI)) (ci := 1) (v := .ref (q 2)) (C := RX1) (T := TX1) (N := 9) hx hb hts hin0 hown hK hP 0 rfl rfl 2 (by decide) fl16 (fun _ h9 => h9) rfl dX1_median_43 ?_
                  refine lv_iload_n hx hb dX1_median_46 rfl (lv_at hl 1 rfl) ?_
                  refine tk_rdi (v := aT i) hx hb hK hP 3 2 rfl rfl (i) (by omega) (by decide) rfl dX1_median_47 ?_
                  refine lv_icmp_le (tgt := 73) hx hb dX1_median_48 (by decide) (fun hc48 => ?_) (fun hc48 => ?_)
                  · refine lv_aload_n hx hb dX1_median_73 rfl (lv_at hl 3 rfl) ?_
                    refine va_get (D := (dC, dI)) (ci := 1) (v := .ref (q 7)) (C := RX1) (T := TX1) (N := 9) hx hb hts hin0 hown hK hP 0 rfl rfl 7 (by decide) fl33 (fun _ h9 => h9) rfl dX1_median_74 ?_
                    refine lv_iload hx hb dX1_median_77 (lv_at hl 0 rfl) ?_
                    refine lv_aload_n hx hb dX1_median_79 rfl (lv_at hl 3 rfl) ?_
                    refine va_get (D := (dC, dI)) (ci := 1) (v := .ref (q 2)) (C := RX1) (T := TX1) (N := 9) hx hb hts hin0 hown hK hP 0 rfl rfl 2 (by decide) fl16 (fun _ h9 => h9) rfl dX1_median_80 ?_
                    refine lv_iload_n hx hb dX1_median_83 rfl (lv_at hl 1 rfl) ?_
                    refine tk_rdi (v := aT i) hx hb hK hP 3 2 rfl rfl (i) (by omega) (by decide) rfl dX1_median_84 ?_
                    refine tk_sti hx hb hK hP hD hS 8 7 rfl rfl (k + 1) (by omega) (by decide) dX1_median_85 (fun Hp locs hP hD hS => ?_)
                    have hP : va_P (dC, dI) vwCl (tk_w1 o q ca aP aH aT aG aL aA aF (upd S2 (k + 1) (aT i)) n) Hp := hP
                    have hD : va_D A (tk_w1 o q ca aP aH aT aG aL aA aF (upd S2 (k + 1) (aT i)) n) := hD
                    refine lv_iinc (k := 2) (v := nI (f + 1)) hx hb dX1_median_86 hl rfl (tk_inc f) (by decide) rfl (fun ls hl => ?_)
                    have hl : lv_has ls 5 [(2, .int (nI (f + 1))), (4, .int (nI (k + 1))), (3, .int (nI i)), (0, .ref o), (1, .int (nI j))] := hl
                    refine lv_aload_n hx hb dX1_median_89 rfl (lv_at hl 3 rfl) ?_
                    refine va_get (D := (dC, dI)) (ci := 1) (v := .ref (q 0)) (C := RX1) (T := TX1) (N := 9) hx hb hts hin0 hown hK hP 0 rfl rfl 0 (by decide) fl9 (fun _ h9 => h9) rfl dX1_median_90 ?_
                    refine lv_iload_n hx hb dX1_median_93 rfl (lv_at hl 2 rfl) ?_
                    refine tk_rdi (v := aP i) hx hb hK hP 1 0 rfl rfl (i) (by omega) (by decide) rfl dX1_median_94 ?_
                    refine lv_istore_n hx hb dX1_median_95 rfl hl (by decide) rfl (fun ls hl => ?_)
                    have hl : lv_has ls 5 [(3, .int (aP i)), (2, .int (nI (f + 1))), (4, .int (nI (k + 1))), (0, .ref o), (1, .int (nI j))] := hl
                    refine lv_goto (tgt := 15) hx hb dX1_median_96 (by decide) ?_
                    have hl : lv_has ls 5 [(3, .int (aP i)), (2, .int (nI (f + 1))), (0, .ref o), (1, .int (nI j))] := lv_sub hl [0, 1, 3, 4] rfl
                    exact ih (f + 1) (pa i) (aP i) _ Hp locs ls (by omega) (fun h9 => by obtain ⟨u1, u2, u3, u4⟩ := tk_up hT hi (by omega); exact ⟨u2, by omega, by omega⟩) (fun h9 => by
                      rcases mn3 with h8 | h8
                      · left; rw [tk_h0 hT hi (by omega), hT.2.1]; decide
                      · right; omega) ((congrArg (tk_md pa aT c0 (f + 1) (pa i)) (tk_ins_f (tk_nlt hc48)).symm).trans hz2) hP hD hS hl
                  · refine lv_aload_n hx hb dX1_median_51 rfl (lv_at hl 3 rfl) ?_
                    refine va_get (D := (dC, dI)) (ci := 1) (v := .ref (q 7)) (C := RX1) (T := TX1) (N := 9) hx hb hts hin0 hown hK hP 0 rfl rfl 7 (by decide) fl33 (fun _ h9 => h9) rfl dX1_median_52 ?_
                    refine lv_iload hx hb dX1_median_55 (lv_at hl 0 rfl) ?_
                    refine lv_aload_n hx hb dX1_median_57 rfl (lv_at hl 3 rfl) ?_
                    refine va_get (D := (dC, dI)) (ci := 1) (v := .ref (q 7)) (C := RX1) (T := TX1) (N := 9) hx hb hts hin0 hown hK hP 0 rfl rfl 7 (by decide) fl33 (fun _ h9 => h9) rfl dX1_median_58 ?_
                    refine lv_iload hx hb dX1_median_61 (lv_at hl 0 rfl) ?_
                    refine lv_iconst (v := nI 1) hx hb dX1_median_63 (by decide +kernel) ?_
                    refine lv_isub hx hb dX1_median_64 ?_
                    refine tk_top (y := nI k) (tk_sub1 k) ?_
                    refine tk_rdi (v := S2 k) hx hb hK hP 8 7 rfl rfl (k) (by omega) (by decide) rfl dX1_median_65 ?_
                    refine tk_sti hx hb hK hP hD hS 8 7 rfl rfl (k + 1) (by omega) (by decide) dX1_median_66 (fun Hp locs hP hD hS => ?_)
                    have hP : va_P (dC, dI) vwCl (tk_w1 o q ca aP aH aT aG aL aA aF (upd S2 (k + 1) (S2 k)) n) Hp := hP
                    have hD : va_D A (tk_w1 o q ca aP aH aT aG aL aA aF (upd S2 (k + 1) (S2 k)) n) := hD
                    refine lv_iinc (k := 0) (v := nI k) hx hb dX1_median_67 hl rfl (tk_dec k) (by decide) rfl (fun ls hl => ?_)
                    have hl : lv_has ls 5 [(4, .int (nI k)), (3, .int (nI i)), (2, .int (nI f)), (0, .ref o), (1, .int (nI j))] := hl
                    refine lv_goto (tgt := 28) hx hb dX1_median_70 (by decide) ?_
                    exact ih2 _ Hp locs ls (by omega) ((congrArg (tk_md pa aT c0 (f + 1) (pa i)) (tk_ins_t (tk_ltn hc48)).symm).trans hz2) hP hD hS hl
            exact loop2 f S Hp locs ls (by omega) hz hP hD hS hl
    exact loop md 0 j (nI j) aS s.heap [] ls (by omega) (fun _ => ⟨rfl, hj, by omega⟩) (fun h9 => by omega) hzz hP hD hS hl
  · refine lv_bipush (v := -2) hx hb dX1_median_8 (by decide +kernel) ?_
    subst hQ
    exact W.iret hx hb hr (fun t ht hW => ⟨⟨-2, tk_w1 o q ca aP aH aT aG aL aA aF aS n, rfl, ⟨(tk_pb0 hc5).symm, congrArg (fun S9 : Nat → Int32 => tk_w1 o q ca aP aH aT aG aL aA aF S9 n) (tk_mb0 hc5).symm⟩, by rw [ht]; exact hP, va_K.moved hW.alike hK, hD⟩, hS.F ht⟩) hS.2.2 dX1_median_10
