set_option maxHeartbeats 4000000 in
set_option maxRecDepth 100000 in
theorem c1_wrong (l : Launch) (dC : Nat → ClassId) (dI : Nat → Nat → Nat) (o : Nat) (q : Nat → Nat) (ca : Nat → ClassId) (aP aH aT aG : Nat → Int32) (aL : Nat → Int64) (aA aF aS : Nat → Int32) (n : Nat) (pa he : Nat → Nat) (hT : tk_I aP aH pa he n) (aZ : Nat → Int32) (hZ : tk_wI pa aF aZ n) (j : Nat) (hj : j < n) : Met l yX1_wrong wsX1_wrong ({ frames := 0, cells := 0, slots := 0, locals := 0 }) (tk_R (dC, dI) (tk_w1 o q ca aP aH aT aG aL aA aF aS n) (tk_t1 ca) [.ref o, .int (nI j)]) (vp_Si (fun r => r = aZ j)) 0 0 (fun _ => False) := by
  refine Met.ofW (cc := cX1_wrong) (maxL := 4) (ret := (some .boolean)) (by decide) rfl ?_
  intro p e s m args below meth c s₁ B hml hv
  obtain ⟨rfl, hP, hK⟩ := hv
  have hx := B.exec
  have hb := B.bytes
  have hr := B.returns
  have hts := atoms_spec (ws := wsX1_wrong) B.pre
  have hown : s.vm.findClass RX1 = some m.cls := findClass_of_methodNamed B.named
  have hlocks := B.notSynchronized
  have hin0 : ∀ w ∈ u_ws RX1 TX1 9, w ∈ wsX1_wrong := by decide +kernel
  have fl29 := hts (.fieldLink RX1 29 "WorkTreeModel" "refused" "[Z") (by decide +kernel)
  have fl9 := hts (.fieldLink RX1 9 "WorkTreeModel" "parent" "[I") (by decide +kernel)
  have hl := lv_entry ([.ref o, .int (nI j)]) (n := 4) (Nat.le_of_ble_eq_true rfl)
  rw [lg_entry_eq]
  generalize (lg_sl ([.ref o, .int (nI j)]) ++ List.replicate (4 - (lg_sl ([.ref o, .int (nI j)])).length) Slot.unset).toArray = ls at hl ⊢
  have hl : lv_has ls 4 [(0, .ref o), (1, .int (nI j))] := hl
  refine tk_Q (fun Q hQ => ?_)
  have hn := hT.1.2
  have loop : ∀ (k : Nat) (a : Nat) (bad : Int32) (ls : Array Slot), a ≤ k → a < n → (bad = 0 ∧ aZ a = aZ j ∨ bad = 1 ∧ aZ j = 1) → lv_has ls 4 [(3, .int (nI a)), (2, .int bad), (0, .ref o), (1, .int (nI j))] → W p l e (headSpec wsX1_wrong ({ frames := 0, cells := 0, slots := 0, locals := 0 })).room s m ([.ref o, .int (nI j)] : List Value).toArray below meth c s.heap [] 0 0 Q (F0 m 4 ls []) := by
    intro k
    induction k with
    | zero =>
      intro a bad ls hak ha hz hl
      refine lv_iload_n hx hb dX1_wrong_4 rfl (lv_at hl 0 rfl) ?_
      refine lv_if_le (tgt := 37) hx hb dX1_wrong_5 (by decide) (fun hc5 => ?_) (fun hc5 => ?_)
      · obtain rfl : a = 0 := by omega
        refine lv_iload_n hx hb dX1_wrong_37 rfl (lv_at hl 1 rfl) ?_
        subst hQ
        rcases hz with ⟨rfl, h9⟩ | ⟨rfl, h9⟩
        · exact tk_zret hx hb hr hlocks rfl (show (0 : Int32) = aZ j from hZ.1.symm.trans h9) dX1_wrong_38
        · exact tk_zret hx hb hr hlocks rfl (show (1 : Int32) = aZ j from h9.symm) dX1_wrong_38
      · obtain rfl : a = 0 := by omega
        exact absurd ((tk_le0 (by omega)).mpr rfl) hc5
    | succ k ih =>
      intro a bad ls hak ha hz hl
      refine lv_iload_n hx hb dX1_wrong_4 rfl (lv_at hl 0 rfl) ?_
      refine lv_if_le (tgt := 37) hx hb dX1_wrong_5 (by decide) (fun hc5 => ?_) (fun hc5 => ?_)
      · obtain rfl : a = 0 := (tk_le0 (by omega)).mp hc5
        refine lv_iload_n hx hb dX1_wrong_37 rfl (lv_at hl 1 rfl) ?_
        subst hQ
        rcases hz with ⟨rfl, h9⟩ | ⟨rfl, h9⟩
        · exact tk_zret hx hb hr hlocks rfl (show (0 : Int32) = aZ j from hZ.1.symm.trans h9) dX1_wrong_38
        · exact tk_zret hx hb hr hlocks rfl (show (1 : Int32) = aZ j from h9.symm) dX1_wrong_38
      · have e5 : 0 < a := Nat.pos_of_ne_zero (fun z => hc5 ((tk_le0 (by omega)).mpr z))
        obtain ⟨u2, u3, u4⟩ := hT.2.2.2.2 a e5 ha
        refine lv_iload_n hx hb dX1_wrong_8 rfl (lv_at hl 1 rfl) ?_
        refine lv_if_ne (tgt := 21) hx hb dX1_wrong_9 (by decide) (fun hc9 => ?_) (fun hc9 => ?_)
        · have hz1 : aZ j = 1 := by
            rcases hz with ⟨h9, _⟩ | ⟨_, h9⟩
            · exact absurd h9 hc9
            · exact h9
          refine lv_iconst (v := 1) hx hb dX1_wrong_21 (by decide +kernel) ?_
          refine lv_goto (tgt := 26) hx hb dX1_wrong_22 (by decide) ?_
          refine lv_istore_n hx hb dX1_wrong_26 rfl hl (by decide) rfl (fun ls hl => ?_)
          have hl : lv_has ls 4 [(2, .int 1), (3, .int (nI a)), (0, .ref o), (1, .int (nI j))] := hl
          refine lv_aload_n hx hb dX1_wrong_27 rfl (lv_at hl 2 rfl) ?_
          refine va_get (D := (dC, dI)) (ci := 1) (v := .ref (q 0)) (C := RX1) (T := TX1) (N := 9) hx hb hts hin0 hown hK hP 0 rfl rfl 0 (by decide) fl9 (fun _ h9 => h9) rfl dX1_wrong_28 ?_
          refine lv_iload_n hx hb dX1_wrong_31 rfl (lv_at hl 1 rfl) ?_
          refine tk_rdi (v := nI (pa a)) hx hb hK hP 1 0 rfl rfl (a) (by omega) (by decide) u2 dX1_wrong_32 ?_
          refine lv_istore_n hx hb dX1_wrong_33 rfl hl (by decide) rfl (fun ls hl => ?_)
          have hl : lv_has ls 4 [(3, .int (nI (pa a))), (2, .int 1), (0, .ref o), (1, .int (nI j))] := hl
          refine lv_goto (tgt := 4) hx hb dX1_wrong_34 (by decide) ?_
          exact ih (pa a) 1 ls (by omega) (by omega) (Or.inr ⟨rfl, hz1⟩) hl
        · have hz0 : aZ a = aZ j := by
            rcases hz with ⟨_, h9⟩ | ⟨h9, _⟩
            · exact h9
            · exact absurd (h9.symm.trans hc9) (by decide)
          refine lv_aload_n hx hb dX1_wrong_12 rfl (lv_at hl 2 rfl) ?_
          refine va_get (D := (dC, dI)) (ci := 1) (v := .ref (q 6)) (C := RX1) (T := TX1) (N := 9) hx hb hts hin0 hown hK hP 0 rfl rfl 6 (by decide) fl29 (fun _ h9 => h9) rfl dX1_wrong_13 ?_
          refine lv_iload_n hx hb dX1_wrong_16 rfl (lv_at hl 0 rfl) ?_
          refine tk_rdz (v := aF a) hx hb hK hP 7 6 rfl rfl (a) (by omega) (by decide) rfl dX1_wrong_17 ?_
          refine lv_if_eq (tgt := 25) hx hb dX1_wrong_18 (by decide) (fun hc18 => ?_) (fun hc18 => ?_)
          · refine lv_iconst (v := 0) hx hb dX1_wrong_25 (by decide +kernel) ?_
            refine lv_istore_n hx hb dX1_wrong_26 rfl hl (by decide) rfl (fun ls hl => ?_)
            have hl : lv_has ls 4 [(2, .int 0), (3, .int (nI a)), (0, .ref o), (1, .int (nI j))] := hl
            refine lv_aload_n hx hb dX1_wrong_27 rfl (lv_at hl 2 rfl) ?_
            refine va_get (D := (dC, dI)) (ci := 1) (v := .ref (q 0)) (C := RX1) (T := TX1) (N := 9) hx hb hts hin0 hown hK hP 0 rfl rfl 0 (by decide) fl9 (fun _ h9 => h9) rfl dX1_wrong_28 ?_
            refine lv_iload_n hx hb dX1_wrong_31 rfl (lv_at hl 1 rfl) ?_
            refine tk_rdi (v := nI (pa a)) hx hb hK hP 1 0 rfl rfl (a) (by omega) (by decide) u2 dX1_wrong_32 ?_
            refine lv_istore_n hx hb dX1_wrong_33 rfl hl (by decide) rfl (fun ls hl => ?_)
            have hl : lv_has ls 4 [(3, .int (nI (pa a))), (2, .int 0), (0, .ref o), (1, .int (nI j))] := hl
            refine lv_goto (tgt := 4) hx hb dX1_wrong_34 (by decide) ?_
            exact ih (pa a) 0 ls (by omega) (by omega) (Or.inl ⟨rfl, ((hZ.2.2 a e5 ha).trans (if_pos hc18)).symm.trans hz0⟩) hl
          · refine lv_iconst (v := 1) hx hb dX1_wrong_21 (by decide +kernel) ?_
            refine lv_goto (tgt := 26) hx hb dX1_wrong_22 (by decide) ?_
            refine lv_istore_n hx hb dX1_wrong_26 rfl hl (by decide) rfl (fun ls hl => ?_)
            have hl : lv_has ls 4 [(2, .int 1), (3, .int (nI a)), (0, .ref o), (1, .int (nI j))] := hl
            refine lv_aload_n hx hb dX1_wrong_27 rfl (lv_at hl 2 rfl) ?_
            refine va_get (D := (dC, dI)) (ci := 1) (v := .ref (q 0)) (C := RX1) (T := TX1) (N := 9) hx hb hts hin0 hown hK hP 0 rfl rfl 0 (by decide) fl9 (fun _ h9 => h9) rfl dX1_wrong_28 ?_
            refine lv_iload_n hx hb dX1_wrong_31 rfl (lv_at hl 1 rfl) ?_
            refine tk_rdi (v := nI (pa a)) hx hb hK hP 1 0 rfl rfl (a) (by omega) (by decide) u2 dX1_wrong_32 ?_
            refine lv_istore_n hx hb dX1_wrong_33 rfl hl (by decide) rfl (fun ls hl => ?_)
            have hl : lv_has ls 4 [(3, .int (nI (pa a))), (2, .int 1), (0, .ref o), (1, .int (nI j))] := hl
            refine lv_goto (tgt := 4) hx hb dX1_wrong_34 (by decide) ?_
            exact ih (pa a) 1 ls (by omega) (by omega) (Or.inr ⟨rfl, hz0.symm.trans ((hZ.2.2 a e5 ha).trans (if_neg hc18))⟩) hl
  refine lv_iconst (v := 0) hx hb dX1_wrong_0 (by decide +kernel) ?_
  refine lv_istore_n hx hb dX1_wrong_1 rfl hl (by decide) rfl (fun ls hl => ?_)
  have hl : lv_has ls 4 [(2, .int 0), (0, .ref o), (1, .int (nI j))] := hl
  refine lv_iload_n hx hb dX1_wrong_2 rfl (lv_at hl 2 rfl) ?_
  refine lv_istore_n hx hb dX1_wrong_3 rfl hl (by decide) rfl (fun ls hl => ?_)
  have hl : lv_has ls 4 [(3, .int (nI j)), (2, .int 0), (0, .ref o), (1, .int (nI j))] := hl
  exact loop j j 0 ls (Nat.le_refl _) hj (Or.inl ⟨rfl, rfl⟩) hl
set_option maxHeartbeats 4000000 in
set_option maxRecDepth 100000 in
theorem c1_ancestor (l : Launch) (dC : Nat → ClassId) (dI : Nat → Nat → Nat) (o : Nat) (q : Nat → Nat) (ca : Nat → ClassId) (aP aH aT aG : Nat → Int32) (aL : Nat → Int64) (aA aF aS : Nat → Int32) (n : Nat) (pa he : Nat → Nat) (hT : tk_I aP aH pa he n) (b t : Int32) : Met l yX1_ancestor wsX1_ancestor ({ frames := 1, cells := 0, slots := 0, locals := 21 }) (tk_R (dC, dI) (tk_w1 o q ca aP aH aT aG aL aA aF aS n) (tk_t1 ca) [.ref o, .int b, .int t]) (vp_Si (fun r => r = tk_an pa he n b t)) 0 0 (fun _ => False) := by
  refine Met.ofW (cc := cX1_ancestor) (maxL := 4) (ret := (some .int)) (by decide) rfl ?_
  intro p e s m args below meth c s₁ B hml hv
  obtain ⟨rfl, hP, hK⟩ := hv
  have hx := B.exec
  have hb := B.bytes
  have hr := B.returns
  have hts := atoms_spec (ws := wsX1_ancestor) B.pre
  have hown : s.vm.findClass RX1 = some m.cls := findClass_of_methodNamed B.named
  have hlocks := B.notSynchronized
  have hin0 : ∀ w ∈ u_ws RX1 TX1 9, w ∈ wsX1_ancestor := by decide +kernel
  have fl13 := hts (.fieldLink RX1 13 "WorkTreeModel" "height" "[I") (by decide +kernel)
  have fl9 := hts (.fieldLink RX1 9 "WorkTreeModel" "parent" "[I") (by decide +kernel)
  have hl := lv_entry ([.ref o, .int b, .int t]) (n := 4) (Nat.le_of_ble_eq_true rfl)
  rw [lg_entry_eq]
  generalize (lg_sl ([.ref o, .int b, .int t]) ++ List.replicate (4 - (lg_sl ([.ref o, .int b, .int t])).length) Slot.unset).toArray = ls at hl ⊢
  have hl : lv_has ls 4 [(0, .ref o), (1, .int b), (2, .int t)] := hl
  refine tk_Q (fun Q hQ => ?_)
  have hn := hT.1.2
  refine lv_aload_n hx hb dX1_ancestor_0 rfl (lv_at hl 0 rfl) ?_
  refine lv_iload_n hx hb dX1_ancestor_1 rfl (lv_at hl 1 rfl) ?_
  refine vp_callSi (W.runV (As := [.int b]) (rest := []) ⟨hx, hb, hml, hown, hts⟩ (c1_is l dC dI o q ca aP aH aT aG aL aA aF aS n b) (cwV 1 hts gX1_ancestor_X1_is rfl rfl rfl (by decide +kernel) ⟨Nat.le_of_ble_eq_true rfl, Nat.le_of_ble_eq_true rfl⟩) (tk_pre hK hP rfl rfl) rfl rfl hl.1 rfl (lv_room (Nat.le_of_ble_eq_true rfl)) dX1_ancestor_2 ⟨Nat.le_of_ble_eq_true rfl, Nat.le_of_ble_eq_true rfl⟩) (fun r hr1 => ?_)
  refine tk_top (y := tk_ex n b) hr1 ?_
  refine lv_if_eq (tgt := 22) hx hb dX1_ancestor_5 (by decide) (fun hc5 => ?_) (fun hc5 => ?_)
  · refine lv_bipush (v := -2) hx hb dX1_ancestor_22 (by decide +kernel) ?_
    subst hQ
    exact tk_iret hx hb hr hlocks (tk_an0 hc5).symm dX1_ancestor_24
  · obtain ⟨j, hj, rfl⟩ := tk_ex_t hn hc5
    have hjj := (hT.2.2.2.1 j hj).2
    refine lv_iload_n hx hb dX1_ancestor_8 rfl (lv_at hl 2 rfl) ?_
    refine lv_if_lt (tgt := 22) hx hb dX1_ancestor_9 (by decide) (fun hc9 => ?_) (fun hc9 => ?_)
    · refine lv_bipush (v := -2) hx hb dX1_ancestor_22 (by decide +kernel) ?_
      subst hQ
      exact tk_iret hx hb hr hlocks (tk_an1 hc9).symm dX1_ancestor_24
    · refine lv_iload_n hx hb dX1_ancestor_12 rfl (lv_at hl 2 rfl) ?_
      refine lv_aload_n hx hb dX1_ancestor_13 rfl (lv_at hl 0 rfl) ?_
      refine va_get (D := (dC, dI)) (ci := 1) (v := .ref (q 1)) (C := RX1) (T := TX1) (N := 9) hx hb hts hin0 hown hK hP 0 rfl rfl 1 (by decide) fl13 (fun _ h9 => h9) rfl dX1_ancestor_14 ?_
      refine lv_iload_n hx hb dX1_ancestor_17 rfl (lv_at hl 1 rfl) ?_
      refine tk_rdi (v := nI (he j)) hx hb hK hP 2 1 rfl rfl (j) (by omega) (by decide) (hT.2.2.2.1 j hj).1 dX1_ancestor_18 ?_
      refine lv_icmp_le (tgt := 25) hx hb dX1_ancestor_19 (by decide) (fun hc19 => ?_) (fun hc19 => ?_)
      · obtain ⟨t, ht0, rfl⟩ := nI_of hc9
        have e19 := (nI_leI (by omega) (by omega)).mp hc19
        refine lv_iload_n hx hb dX1_ancestor_25 rfl (lv_at hl 1 rfl) ?_
        refine lv_istore_n hx hb dX1_ancestor_26 rfl hl (by decide) rfl (fun ls hl => ?_)
        have hl : lv_has ls 4 [(3, .int (nI j)), (0, .ref o), (1, .int (nI j)), (2, .int (nI t))] := hl
        have hzz : nI (tk_anc pa (he j - t) j) = tk_an pa he n (nI j) (nI t) := (tk_an3 hn hj ht0 e19).symm
        generalize hzq : tk_anc pa (he j - t) j = z at hzz
        have loop : ∀ (k : Nat) (a : Nat) (ls : Array Slot), a < n → he a = t + k → tk_anc pa k a = z → lv_has ls 4 [(3, .int (nI a)), (0, .ref o), (1, .int (nI j)), (2, .int (nI t))] → W p l e (headSpec wsX1_ancestor ({ frames := 1, cells := 0, slots := 0, locals := 21 })).room s m ([.ref o, .int (nI j), .int (nI t)] : List Value).toArray below meth c s.heap [] 0 0 Q (F0 m 27 ls []) := by
          intro k
          induction k with
          | zero =>
            intro a ls ha hka hz hl
            have hka2 := (hT.2.2.2.1 a ha).2
            refine lv_aload_n hx hb dX1_ancestor_27 rfl (lv_at hl 1 rfl) ?_
            refine va_get (D := (dC, dI)) (ci := 1) (v := .ref (q 1)) (C := RX1) (T := TX1) (N := 9) hx hb hts hin0 hown hK hP 0 rfl rfl 1 (by decide) fl13 (fun _ h9 => h9) rfl dX1_ancestor_28 ?_
            refine lv_iload_n hx hb dX1_ancestor_31 rfl (lv_at hl 0 rfl) ?_
            refine tk_rdi (v := nI (he a)) hx hb hK hP 2 1 rfl rfl (a) (by omega) (by decide) (hT.2.2.2.1 a ha).1 dX1_ancestor_32 ?_
            refine lv_iload_n hx hb dX1_ancestor_33 rfl (lv_at hl 3 rfl) ?_
            refine lv_icmp_le (tgt := 47) hx hb dX1_ancestor_34 (by decide) (fun hc34 => ?_) (fun hc34 => ?_)
            · refine lv_iload_n hx hb dX1_ancestor_47 rfl (lv_at hl 0 rfl) ?_
              subst hQ
              exact tk_iret hx hb hr hlocks (show nI a = _ from (congrArg nI hz).trans hzz) dX1_ancestor_48
            · exact absurd (nI_le (by omega) (by omega)) hc34
          | succ k ih =>
            intro a ls ha hka hz hl
            have hka2 := (hT.2.2.2.1 a ha).2
            refine lv_aload_n hx hb dX1_ancestor_27 rfl (lv_at hl 1 rfl) ?_
            refine va_get (D := (dC, dI)) (ci := 1) (v := .ref (q 1)) (C := RX1) (T := TX1) (N := 9) hx hb hts hin0 hown hK hP 0 rfl rfl 1 (by decide) fl13 (fun _ h9 => h9) rfl dX1_ancestor_28 ?_
            refine lv_iload_n hx hb dX1_ancestor_31 rfl (lv_at hl 0 rfl) ?_
            refine tk_rdi (v := nI (he a)) hx hb hK hP 2 1 rfl rfl (a) (by omega) (by decide) (hT.2.2.2.1 a ha).1 dX1_ancestor_32 ?_
            refine lv_iload_n hx hb dX1_ancestor_33 rfl (lv_at hl 3 rfl) ?_
            refine lv_icmp_le (tgt := 47) hx hb dX1_ancestor_34 (by decide) (fun hc34 => ?_) (fun hc34 => ?_)
            · exact absurd ((nI_leI (by omega) (by omega)).mp hc34) (by omega)
            · obtain ⟨u1, u2, u3, u4⟩ := tk_up hT ha (by omega)
              refine lv_aload_n hx hb dX1_ancestor_37 rfl (lv_at hl 1 rfl) ?_
              refine va_get (D := (dC, dI)) (ci := 1) (v := .ref (q 0)) (C := RX1) (T := TX1) (N := 9) hx hb hts hin0 hown hK hP 0 rfl rfl 0 (by decide) fl9 (fun _ h9 => h9) rfl dX1_ancestor_38 ?_
              refine lv_iload_n hx hb dX1_ancestor_41 rfl (lv_at hl 0 rfl) ?_
              refine tk_rdi (v := nI (pa a)) hx hb hK hP 1 0 rfl rfl (a) (by omega) (by decide) u2 dX1_ancestor_42 ?_
              refine lv_istore_n hx hb dX1_ancestor_43 rfl hl (by decide) rfl (fun ls hl => ?_)
              have hl : lv_has ls 4 [(3, .int (nI (pa a))), (0, .ref o), (1, .int (nI j)), (2, .int (nI t))] := hl
              refine lv_goto (tgt := 27) hx hb dX1_ancestor_44 (by decide) ?_
              exact ih (pa a) ls (by omega) (by omega) hz hl
        exact loop (he j - t) j ls hj (by omega) hzq hl
      · refine lv_bipush (v := -2) hx hb dX1_ancestor_22 (by decide +kernel) ?_
        subst hQ
        exact tk_iret hx hb hr hlocks (tk_an2 hn hj hc19).symm dX1_ancestor_24
set_option maxHeartbeats 4000000 in
set_option maxRecDepth 100000 in
theorem c1_best (l : Launch) (dC : Nat → ClassId) (dI : Nat → Nat → Nat) (o : Nat) (q : Nat → Nat) (ca : Nat → ClassId) (aP aH aT aG : Nat → Int32) (aL : Nat → Int64) (aA aF aS : Nat → Int32) (n : Nat) (pa he : Nat → Nat) (hT : tk_I aP aH pa he n) (aZ : Nat → Int32) (hZ : tk_wI pa aF aZ n) (wk : Nat → Nat) (hL : tk_WL aL wk n) : Met l yX1_best wsX1_best ({ frames := 1, cells := 0, slots := 0, locals := 23 }) (tk_R (dC, dI) (tk_w1 o q ca aP aH aT aG aL aA aF aS n) (tk_t1 ca) [.ref o]) (vp_Si (fun r => r = nI (tk_best aZ aA wk n))) 0 0 (fun _ => False) := by
  refine Met.ofW (cc := cX1_best) (maxL := 3) (ret := (some .int)) (by decide) rfl ?_
  intro p e s m args below meth c s₁ B hml hv
  obtain ⟨rfl, hP, hK⟩ := hv
  have hx := B.exec
  have hb := B.bytes
  have hr := B.returns
  have hts := atoms_spec (ws := wsX1_best) B.pre
  have hown : s.vm.findClass RX1 = some m.cls := findClass_of_methodNamed B.named
  have hlocks := B.notSynchronized
  have hin0 : ∀ w ∈ u_ws RX1 TX1 9, w ∈ wsX1_best := by decide +kernel
  have fl36 := hts (.fieldLink RX1 36 "WorkTreeModel" "count" "I") (by decide +kernel)
  have fl22 := hts (.fieldLink RX1 22 "WorkTreeModel" "work" "[J") (by decide +kernel)
  have fl26 := hts (.fieldLink RX1 26 "WorkTreeModel" "arrival" "[I") (by decide +kernel)
  have hl := lv_entry ([.ref o]) (n := 3) (Nat.le_of_ble_eq_true rfl)
  rw [lg_entry_eq]
  generalize (lg_sl ([.ref o]) ++ List.replicate (3 - (lg_sl ([.ref o])).length) Slot.unset).toArray = ls at hl ⊢
  have hl : lv_has ls 3 [(0, .ref o)] := hl
  refine tk_Q (fun Q hQ => ?_)
  have hn := hT.1.2
  have hn1 := hT.1.1
  generalize hzz : tk_best aZ aA wk n = z at hQ
  have loop : ∀ (c0 : Nat) (b f : Nat) (ls : Array Slot), b + c0 = n → f < n → tk_bs aZ aA wk c0 b f = z → lv_has ls 3 [(2, .int (nI b)), (1, .int (nI f)), (0, .ref o)] → W p l e (headSpec wsX1_best ({ frames := 1, cells := 0, slots := 0, locals := 23 })).room s m ([.ref o] : List Value).toArray below meth c s.heap [] 0 0 Q (F0 m 4 ls []) := by
    intro c0
    induction c0 with
    | zero =>
      intro b f ls hbn hf hz hl
      refine lv_iload_n hx hb dX1_best_4 rfl (lv_at hl 0 rfl) ?_
      refine lv_aload_n hx hb dX1_best_5 rfl (lv_at hl 2 rfl) ?_
      refine va_get (D := (dC, dI)) (ci := 1) (v := .int (nI n)) (C := RX1) (T := TX1) (N := 9) hx hb hts hin0 hown hK hP 0 rfl rfl 8 (by decide) fl36 (fun _ h9 => h9) rfl dX1_best_6 ?_
      refine lv_icmp_ge (tgt := 75) hx hb dX1_best_9 (by decide) (fun hc9 => ?_) (fun hc9 => ?_)
      · refine lv_iload_n hx hb dX1_best_75 rfl (lv_at hl 1 rfl) ?_
        subst hQ
        exact tk_iret hx hb hr hlocks (show nI f = nI z from congrArg nI hz) dX1_best_76
      · exact absurd (nI_le (by omega) (by omega)) hc9
    | succ c0 ih =>
      intro b f ls hbn hf hz hl
      have hbn2 : b < n := by omega
      have hwb := (hL b hbn2).2
      have hwf := (hL f hf).2
      refine lv_iload_n hx hb dX1_best_4 rfl (lv_at hl 0 rfl) ?_
      refine lv_aload_n hx hb dX1_best_5 rfl (lv_at hl 2 rfl) ?_
      refine va_get (D := (dC, dI)) (ci := 1) (v := .int (nI n)) (C := RX1) (T := TX1) (N := 9) hx hb hts hin0 hown hK hP 0 rfl rfl 8 (by decide) fl36 (fun _ h9 => h9) rfl dX1_best_6 ?_
      refine lv_icmp_ge (tgt := 75) hx hb dX1_best_9 (by decide) (fun hc9 => ?_) (fun hc9 => ?_)
      · exact absurd hc9 (nI_ge (by omega) (by omega))
      · refine lv_aload_n hx hb dX1_best_12 rfl (lv_at hl 2 rfl) ?_
        refine va_get (D := (dC, dI)) (ci := 1) (v := .ref (q 4)) (C := RX1) (T := TX1) (N := 9) hx hb hts hin0 hown hK hP 0 rfl rfl 4 (by decide) fl22 (fun _ h9 => h9) rfl dX1_best_13 ?_
        refine lv_iload_n hx hb dX1_best_16 rfl (lv_at hl 0 rfl) ?_
        refine tk_rdl (v := lN (wk b)) hx hb hK hP 5 4 rfl rfl (b) (by omega) (by decide) (hL b hbn2).1 dX1_best_17 ?_
        refine lv_aload_n hx hb dX1_best_18 rfl (lv_at hl 2 rfl) ?_
        refine va_get (D := (dC, dI)) (ci := 1) (v := .ref (q 4)) (C := RX1) (T := TX1) (N := 9) hx hb hts hin0 hown hK hP 0 rfl rfl 4 (by decide) fl22 (fun _ h9 => h9) rfl dX1_best_19 ?_
        refine lv_iload_n hx hb dX1_best_22 rfl (lv_at hl 1 rfl) ?_
        refine tk_rdl (v := lN (wk f)) hx hb hK hP 5 4 rfl rfl (f) (by omega) (by decide) (hL f hf).1 dX1_best_23 ?_
        refine tk_lcmp (v := lg_cmp (lN (wk b)) (lN (wk f))) hx hb dX1_best_24 rfl ?_
        refine lv_if_gt (tgt := 59) hx hb dX1_best_25 (by decide) (fun hc25 => ?_) (fun hc25 => ?_)
        · have e25 := (tk_cmp_gt (by omega) (by omega)).mp hc25
          refine lv_aload_n hx hb dX1_best_59 rfl (lv_at hl 2 rfl) ?_
          refine lv_iload_n hx hb dX1_best_60 rfl (lv_at hl 0 rfl) ?_
          refine vp_callSi (W.runV (As := [.int (nI b)]) (rest := []) ⟨hx, hb, hml, hown, hts⟩ (c1_wrong l dC dI o q ca aP aH aT aG aL aA aF aS n pa he hT aZ hZ b hbn2) (cwV 1 hts gX1_best_X1_wrong rfl rfl rfl (by decide +kernel) ⟨Nat.le_of_ble_eq_true rfl, Nat.le_of_ble_eq_true rfl⟩) (tk_pre hK hP rfl rfl) rfl rfl hl.1 rfl (lv_room (Nat.le_of_ble_eq_true rfl)) dX1_best_61 ⟨Nat.le_of_ble_eq_true rfl, Nat.le_of_ble_eq_true rfl⟩) (fun r hr1 => ?_)
          refine tk_top (y := aZ b) hr1 ?_
          refine lv_if_ne (tgt := 69) hx hb dX1_best_64 (by decide) (fun hc64 => ?_) (fun hc64 => ?_)
          · refine lv_iinc (k := 0) (v := nI (b + 1)) hx hb dX1_best_69 hl rfl (tk_inc b) (by decide) rfl (fun ls hl => ?_)
            have hl : lv_has ls 3 [(2, .int (nI (b + 1))), (1, .int (nI f)), (0, .ref o)] := hl
            refine lv_goto (tgt := 4) hx hb dX1_best_72 (by decide) ?_
            exact ih (b + 1) f ls (by omega) hf ((tk_bs_no (fun z9 => hc64 z9.1)).symm.trans hz) hl
          · refine lv_iload_n hx hb dX1_best_67 rfl (lv_at hl 0 rfl) ?_
            refine lv_istore_n hx hb dX1_best_68 rfl hl (by decide) rfl (fun ls hl => ?_)
            have hl : lv_has ls 3 [(1, .int (nI b)), (2, .int (nI b)), (0, .ref o)] := hl
            refine lv_iinc (k := 1) (v := nI (b + 1)) hx hb dX1_best_69 hl rfl (tk_inc b) (by decide) rfl (fun ls hl => ?_)
            have hl : lv_has ls 3 [(2, .int (nI (b + 1))), (1, .int (nI b)), (0, .ref o)] := hl
            refine lv_goto (tgt := 4) hx hb dX1_best_72 (by decide) ?_
            exact ih (b + 1) b ls (by omega) hbn2 ((tk_bs_yes ⟨hc64, Or.inl e25⟩).symm.trans hz) hl
        · have e25 : ¬ wk f < wk b := fun z => hc25 ((tk_cmp_gt (by omega) (by omega)).mpr z)
          refine lv_aload_n hx hb dX1_best_28 rfl (lv_at hl 2 rfl) ?_
          refine va_get (D := (dC, dI)) (ci := 1) (v := .ref (q 4)) (C := RX1) (T := TX1) (N := 9) hx hb hts hin0 hown hK hP 0 rfl rfl 4 (by decide) fl22 (fun _ h9 => h9) rfl dX1_best_29 ?_
          refine lv_iload_n hx hb dX1_best_32 rfl (lv_at hl 0 rfl) ?_
          refine tk_rdl (v := lN (wk b)) hx hb hK hP 5 4 rfl rfl (b) (by omega) (by decide) (hL b hbn2).1 dX1_best_33 ?_
          refine lv_aload_n hx hb dX1_best_34 rfl (lv_at hl 2 rfl) ?_
          refine va_get (D := (dC, dI)) (ci := 1) (v := .ref (q 4)) (C := RX1) (T := TX1) (N := 9) hx hb hts hin0 hown hK hP 0 rfl rfl 4 (by decide) fl22 (fun _ h9 => h9) rfl dX1_best_35 ?_
          refine lv_iload_n hx hb dX1_best_38 rfl (lv_at hl 1 rfl) ?_
          refine tk_rdl (v := lN (wk f)) hx hb hK hP 5 4 rfl rfl (f) (by omega) (by decide) (hL f hf).1 dX1_best_39 ?_
          refine tk_lcmp (v := lg_cmp (lN (wk b)) (lN (wk f))) hx hb dX1_best_40 rfl ?_
          refine lv_if_ne (tgt := 69) hx hb dX1_best_41 (by decide) (fun hc41 => ?_) (fun hc41 => ?_)
          · have e41 : ¬ wk b = wk f := fun z => hc41 ((tk_cmp_eq (by omega) (by omega)).mpr z)
            refine lv_iinc (k := 0) (v := nI (b + 1)) hx hb dX1_best_69 hl rfl (tk_inc b) (by decide) rfl (fun ls hl => ?_)
            have hl : lv_has ls 3 [(2, .int (nI (b + 1))), (1, .int (nI f)), (0, .ref o)] := hl
            refine lv_goto (tgt := 4) hx hb dX1_best_72 (by decide) ?_
            exact ih (b + 1) f ls (by omega) hf ((tk_bs_no (fun z9 => by rcases z9.2 with h9 | h9 <;> omega)).symm.trans hz) hl
          · have e41 := (tk_cmp_eq (by omega) (by omega)).mp hc41
            refine lv_aload_n hx hb dX1_best_44 rfl (lv_at hl 2 rfl) ?_
            refine va_get (D := (dC, dI)) (ci := 1) (v := .ref (q 5)) (C := RX1) (T := TX1) (N := 9) hx hb hts hin0 hown hK hP 0 rfl rfl 5 (by decide) fl26 (fun _ h9 => h9) rfl dX1_best_45 ?_
            refine lv_iload_n hx hb dX1_best_48 rfl (lv_at hl 0 rfl) ?_
            refine tk_rdi (v := aA b) hx hb hK hP 6 5 rfl rfl (b) (by omega) (by decide) rfl dX1_best_49 ?_
            refine lv_aload_n hx hb dX1_best_50 rfl (lv_at hl 2 rfl) ?_
            refine va_get (D := (dC, dI)) (ci := 1) (v := .ref (q 5)) (C := RX1) (T := TX1) (N := 9) hx hb hts hin0 hown hK hP 0 rfl rfl 5 (by decide) fl26 (fun _ h9 => h9) rfl dX1_best_51 ?_
            refine lv_iload_n hx hb dX1_best_54 rfl (lv_at hl 1 rfl) ?_
            refine tk_rdi (v := aA f) hx hb hK hP 6 5 rfl rfl (f) (by omega) (by decide) rfl dX1_best_55 ?_
            refine lv_icmp_ge (tgt := 69) hx hb dX1_best_56 (by decide) (fun hc56 => ?_) (fun hc56 => ?_)
            · refine lv_iinc (k := 0) (v := nI (b + 1)) hx hb dX1_best_69 hl rfl (tk_inc b) (by decide) rfl (fun ls hl => ?_)
              have hl : lv_has ls 3 [(2, .int (nI (b + 1))), (1, .int (nI f)), (0, .ref o)] := hl
              refine lv_goto (tgt := 4) hx hb dX1_best_72 (by decide) ?_
              exact ih (b + 1) f ls (by omega) hf ((tk_bs_no (fun z9 => by
                rcases z9.2 with h9 | h9
                · omega
                · exact tk_nlt hc56 h9.2)).symm.trans hz) hl
            · refine lv_aload_n hx hb dX1_best_59 rfl (lv_at hl 2 rfl) ?_
              refine lv_iload_n hx hb dX1_best_60 rfl (lv_at hl 0 rfl) ?_
              refine vp_callSi (W.runV (As := [.int (nI b)]) (rest := []) ⟨hx, hb, hml, hown, hts⟩ (c1_wrong l dC dI o q ca aP aH aT aG aL aA aF aS n pa he hT aZ hZ b hbn2) (cwV 1 hts gX1_best_X1_wrong rfl rfl rfl (by decide +kernel) ⟨Nat.le_of_ble_eq_true rfl, Nat.le_of_ble_eq_true rfl⟩) (tk_pre hK hP rfl rfl) rfl rfl hl.1 rfl (lv_room (Nat.le_of_ble_eq_true rfl)) dX1_best_61 ⟨Nat.le_of_ble_eq_true rfl, Nat.le_of_ble_eq_true rfl⟩) (fun r hr1 => ?_)
              refine tk_top (y := aZ b) hr1 ?_
              refine lv_if_ne (tgt := 69) hx hb dX1_best_64 (by decide) (fun hc64 => ?_) (fun hc64 => ?_)
              · refine lv_iinc (k := 0) (v := nI (b + 1)) hx hb dX1_best_69 hl rfl (tk_inc b) (by decide) rfl (fun ls hl => ?_)
                have hl : lv_has ls 3 [(2, .int (nI (b + 1))), (1, .int (nI f)), (0, .ref o)] := hl
                refine lv_goto (tgt := 4) hx hb dX1_best_72 (by decide) ?_
                exact ih (b + 1) f ls (by omega) hf ((tk_bs_no (fun z9 => hc64 z9.1)).symm.trans hz) hl
              · refine lv_iload_n hx hb dX1_best_67 rfl (lv_at hl 0 rfl) ?_
                refine lv_istore_n hx hb dX1_best_68 rfl hl (by decide) rfl (fun ls hl => ?_)
                have hl : lv_has ls 3 [(1, .int (nI b)), (2, .int (nI b)), (0, .ref o)] := hl
                refine lv_iinc (k := 1) (v := nI (b + 1)) hx hb dX1_best_69 hl rfl (tk_inc b) (by decide) rfl (fun ls hl => ?_)
                have hl : lv_has ls 3 [(2, .int (nI (b + 1))), (1, .int (nI b)), (0, .ref o)] := hl
                refine lv_goto (tgt := 4) hx hb dX1_best_72 (by decide) ?_
                exact ih (b + 1) b ls (by omega) hbn2 ((tk_bs_yes ⟨hc64, Or.inr ⟨e41.symm, tk_ltn hc56⟩⟩).symm.trans hz) hl
  refine lv_iconst (v := nI 0) hx hb dX1_best_0 (by decide +kernel) ?_
  refine lv_istore_n hx hb dX1_best_1 rfl hl (by decide) rfl (fun ls hl => ?_)
  have hl : lv_has ls 3 [(1, .int (nI 0)), (0, .ref o)] := hl
  refine lv_iconst (v := nI 1) hx hb dX1_best_2 (by decide +kernel) ?_
  refine lv_istore_n hx hb dX1_best_3 rfl hl (by decide) rfl (fun ls hl => ?_)
  have hl : lv_has ls 3 [(2, .int (nI 1)), (1, .int (nI 0)), (0, .ref o)] := hl
  exact loop (n - 1) 1 0 ls (by omega) (by omega) hzz hl
