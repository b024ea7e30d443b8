set_option maxHeartbeats 4000000 in
set_option maxRecDepth 100000 in
theorem c0_insertTime (l : Launch) (dC : Nat → ClassId) (dI : Nat → Nat → Nat) (o : Nat) (q : Nat → Nat) (ca : Nat → ClassId) (aP aH aT aA aG aK aZ aS : Nat → Int32) (n : Nat) (sz : Nat) (tm : Int32) (f : Nat) (hf : f < 7) : Met l yX0_insertTime wsX0_insertTime ({ frames := 0, cells := 0, slots := 0, locals := 0 }) (tk_Wp (dC, dI) (tk_w0 o q ca aP aH aT aA aG aK aZ aS n) (tk_t0 ca) sz [.ref o, .int tm, .int (nI f)]) (va_Qv (fun u : va_W => u = tk_w0 o q ca aP aH aT aA aG aK aZ (tk_ins tm f aS) n) (tk_E (dC, dI) (tk_t0 ca) (va_A (tk_w0 o q ca aP aH aT aA aG aK aZ aS n) sz)) (va_A (tk_w0 o q ca aP aH aT aA aG aK aZ aS n) sz)) 0 0 (va_A (tk_w0 o q ca aP aH aT aA aG aK aZ aS n) sz) := by
  refine Met.ofW (cc := cX0_insertTime) (maxL := 4) (ret := none) (by decide) rfl ?_
  intro p e s m args below meth c s₁ B hml hv
  obtain ⟨rfl, hsz, hP, hK, hD0⟩ := hv
  have hx := B.exec
  have hb := B.bytes
  have hr := B.returns
  have hts := atoms_spec (ws := wsX0_insertTime) B.pre
  have hown : s.vm.findClass RX0 = some m.cls := findClass_of_methodNamed B.named
  have hlocks := B.notSynchronized
  have hin0 : ∀ w ∈ u_ws RX0 TX0 9, w ∈ wsX0_insertTime := by decide +kernel
  have fl32 := hts (.fieldLink RX0 32 "WorkTree" "sortedTimes" "[I") (by decide +kernel)
  subst hsz
  have hD := hD0.self (sz := s.heap.size)
  generalize hAe : va_A (tk_w0 o q ca aP aH aT aA aG aK aZ aS n) s.heap.size = A at hD ⊢
  have hA : ∀ q : Nat, s.heap.size ≤ q → A q := fun q h => by rw [← hAe]; exact Or.inr h
  have hS : va_S A s.heap s.heap [] := va_S.rf
  have hl := lv_entry ([.ref o, .int tm, .int (nI f)]) (n := 4) (Nat.le_of_ble_eq_true rfl)
  rw [lg_entry_eq]
  generalize (lg_sl ([.ref o, .int tm, .int (nI f)]) ++ List.replicate (4 - (lg_sl ([.ref o, .int tm, .int (nI f)])).length) Slot.unset).toArray = ls at hl ⊢
  have hl : lv_has ls 4 [(0, .ref o), (1, .int tm), (2, .int (nI f))] := hl
  refine tk_Q (fun Q hQ => ?_)
  generalize hzz : tk_ins tm f aS = z at hQ
  have loop : ∀ (k : Nat) (S : Nat → Int32) (Hp : Heap) (locs : List Loc) (ls : Array Slot), k < 7 → tk_ins tm k S = z → va_P (dC, dI) vwCl (tk_w0 o q ca aP aH aT aA aG aK aZ S n) Hp → va_D A (tk_w0 o q ca aP aH aT aA aG aK aZ S n) → va_S A s.heap Hp locs → lv_has ls 4 [(3, .int (nI k)), (0, .ref o), (1, .int tm), (2, .int (nI f))] → W p l e (headSpec wsX0_insertTime ({ frames := 0, cells := 0, slots := 0, locals := 0 })).room s m ([.ref o, .int tm, .int (nI f)] : List Value).toArray below meth c Hp locs 0 0 Q (F0 m 2 ls []) := by
    intro k
    induction k with
    | zero =>
      intro S Hp locs ls hk hz hP hD hS hl
      refine lv_iload_n hx hb dX0_insertTime_2 rfl (lv_at hl 0 rfl) ?_
      refine lv_if_le (tgt := 38) hx hb dX0_insertTime_3 (by decide) (fun hc3 => ?_) (fun hc3 => ?_)
      · refine lv_aload_n hx hb dX0_insertTime_38 rfl (lv_at hl 1 rfl) ?_
        refine va_get (D := (dC, dI)) (ci := 0) (v := .ref (q 7)) (C := RX0) (T := TX0) (N := 9) hx hb hts hin0 hown hK hP 0 rfl rfl 7 (by decide) fl32 (fun _ h9 => h9) rfl dX0_insertTime_39 ?_
        refine lv_iload_n hx hb dX0_insertTime_42 rfl (lv_at hl 0 rfl) ?_
        refine lv_iload_n hx hb dX0_insertTime_43 rfl (lv_at hl 2 rfl) ?_
        refine tk_sti hx hb hK hP hD hS 8 7 rfl rfl 0 (by omega) (by decide) dX0_insertTime_44 (fun Hp locs hP hD hS => ?_)
        have hP : va_P (dC, dI) vwCl (tk_w0 o q ca aP aH aT aA aG aK aZ (upd S 0 tm) n) Hp := hP
        have hD : va_D A (tk_w0 o q ca aP aH aT aA aG aK aZ (upd S 0 tm) n) := hD
        subst hQ
        exact W.vret hx hb hr (fun t ht hW => ⟨⟨tk_w0 o q ca aP aH aT aA aG aK aZ (upd S 0 tm) n, rfl, (congrArg (fun S9 : Nat → Int32 => tk_w0 o q ca aP aH aT aA aG aK aZ S9 n) hz), by rw [ht]; exact hP, va_K.moved hW.alike hK, hD⟩, hS.F ht⟩) hS.2.2 dX0_insertTime_45
      · exact absurd ((tk_le0 (by omega)).mpr rfl) hc3
    | succ k ih =>
      intro S Hp locs ls hk hz hP hD hS hl
      refine lv_iload_n hx hb dX0_insertTime_2 rfl (lv_at hl 0 rfl) ?_
      refine lv_if_le (tgt := 38) hx hb dX0_insertTime_3 (by decide) (fun hc3 => ?_) (fun hc3 => ?_)
      · exact absurd ((tk_le0 (by omega)).mp hc3) (by omega)
      · refine lv_aload_n hx hb dX0_insertTime_6 rfl (lv_at hl 1 rfl) ?_
        refine va_get (D := (dC, dI)) (ci := 0) (v := .ref (q 7)) (C := RX0) (T := TX0) (N := 9) hx hb hts hin0 hown hK hP 0 rfl rfl 7 (by decide) fl32 (fun _ h9 => h9) rfl dX0_insertTime_7 ?_
        refine lv_iload_n hx hb dX0_insertTime_10 rfl (lv_at hl 0 rfl) ?_
        refine lv_iconst (v := nI 1) hx hb dX0_insertTime_11 (by decide +kernel) ?_
        refine lv_isub hx hb dX0_insertTime_12 ?_
        refine tk_top (y := nI k) (tk_sub1 k) ?_
        refine tk_rdi (v := S k) hx hb hK hP 8 7 rfl rfl (k) (by omega) (by decide) rfl dX0_insertTime_13 ?_
        refine lv_iload_n hx hb dX0_insertTime_14 rfl (lv_at hl 2 rfl) ?_
        refine lv_icmp_le (tgt := 38) hx hb dX0_insertTime_15 (by decide) (fun hc15 => ?_) (fun hc15 => ?_)
        · refine lv_aload_n hx hb dX0_insertTime_38 rfl (lv_at hl 1 rfl) ?_
          refine va_get (D := (dC, dI)) (ci := 0) (v := .ref (q 7)) (C := RX0) (T := TX0) (N := 9) hx hb hts hin0 hown hK hP 0 rfl rfl 7 (by decide) fl32 (fun _ h9 => h9) rfl dX0_insertTime_39 ?_
          refine lv_iload_n hx hb dX0_insertTime_42 rfl (lv_at hl 0 rfl) ?_
          refine lv_iload_n hx hb dX0_insertTime_43 rfl (lv_at hl 2 rfl) ?_
          refine tk_sti hx hb hK hP hD hS 8 7 rfl rfl (k + 1) (by omega) (by decide) dX0_insertTime_44 (fun Hp locs hP hD hS => ?_)
          have hP : va_P (dC, dI) vwCl (tk_w0 o q ca aP aH aT aA aG aK aZ (upd S (k + 1) tm) n) Hp := hP
          have hD : va_D A (tk_w0 o q ca aP aH aT aA aG aK aZ (upd S (k + 1) tm) n) := hD
          subst hQ
          exact W.vret hx hb hr (fun t ht hW => ⟨⟨tk_w0 o q ca aP aH aT aA aG aK aZ (upd S (k + 1) tm) n, rfl, (congrArg (fun S9 : Nat → Int32 => tk_w0 o q ca aP aH aT aA aG aK aZ S9 n) ((tk_ins_f (tk_nlt hc15)).symm.trans hz)), by rw [ht]; exact hP, va_K.moved hW.alike hK, hD⟩, hS.F ht⟩) hS.2.2 dX0_insertTime_45
        · refine lv_aload_n hx hb dX0_insertTime_18 rfl (lv_at hl 1 rfl) ?_
          refine va_get (D := (dC, dI)) (ci := 0) (v := .ref (q 7)) (C := RX0) (T := TX0) (N := 9) hx hb hts hin0 hown hK hP 0 rfl rfl 7 (by decide) fl32 (fun _ h9 => h9) rfl dX0_insertTime_19 ?_
          refine lv_iload_n hx hb dX0_insertTime_22 rfl (lv_at hl 0 rfl) ?_
          refine lv_aload_n hx hb dX0_insertTime_23 rfl (lv_at hl 1 rfl) ?_
          refine va_get (D := (dC, dI)) (ci := 0) (v := .ref (q 7)) (C := RX0) (T := TX0) (N := 9) hx hb hts hin0 hown hK hP 0 rfl rfl 7 (by decide) fl32 (fun _ h9 => h9) rfl dX0_insertTime_24 ?_
          refine lv_iload_n hx hb dX0_insertTime_27 rfl (lv_at hl 0 rfl) ?_
          refine lv_iconst (v := nI 1) hx hb dX0_insertTime_28 (by decide +kernel) ?_
          refine lv_isub hx hb dX0_insertTime_29 ?_
          refine tk_top (y := nI k) (tk_sub1 k) ?_
          refine tk_rdi (v := S k) hx hb hK hP 8 7 rfl rfl (k) (by omega) (by decide) rfl dX0_insertTime_30 ?_
          refine tk_sti hx hb hK hP hD hS 8 7 rfl rfl (k + 1) (by omega) (by decide) dX0_insertTime_31 (fun Hp locs hP hD hS => ?_)
          have hP : va_P (dC, dI) vwCl (tk_w0 o q ca aP aH aT aA aG aK aZ (upd S (k + 1) (S k)) n) Hp := hP
          have hD : va_D A (tk_w0 o q ca aP aH aT aA aG aK aZ (upd S (k + 1) (S k)) n) := hD
          refine lv_iinc (k := 0) (v := nI k) hx hb dX0_insertTime_32 hl rfl (tk_dec k) (by decide) rfl (fun ls hl => ?_)
          have hl : lv_has ls 4 [(3, .int (nI k)), (0, .ref o), (1, .int tm), (2, .int (nI f))] := hl
          refine lv_goto (tgt := 2) hx hb dX0_insertTime_35 (by decide) ?_
          exact ih _ Hp locs ls (by omega) ((tk_ins_t (tk_ltn hc15)).symm.trans hz) hP hD hS hl
  refine lv_iload_n hx hb dX0_insertTime_0 rfl (lv_at hl 2 rfl) ?_
  refine lv_istore_n hx hb dX0_insertTime_1 rfl hl (by decide) rfl (fun ls hl => ?_)
  have hl : lv_has ls 4 [(3, .int (nI f)), (0, .ref o), (1, .int tm), (2, .int (nI f))] := hl
  exact loop f aS s.heap [] ls hf hzz hP hD hS hl
set_option maxHeartbeats 4000000 in
set_option maxRecDepth 100000 in
theorem c0_medianTime (l : Launch) (dC : Nat → ClassId) (dI : Nat → Nat → Nat) (o : Nat) (q : Nat → Nat) (ca : Nat → ClassId) (aP aH aT aA aG aK aZ aS : Nat → Int32) (n : Nat) (sz : Nat) (pa he : Nat → Nat) (hT : tk_I aP aH pa he n) (j : Nat) (hj : j < n) : Met l yX0_medianTime wsX0_medianTime ({ frames := 1, cells := 0, slots := 0, locals := 23 }) (tk_Wp (dC, dI) (tk_w0 o q ca aP aH aT aA aG aK aZ aS n) (tk_t0 ca) sz [.ref o, .int (nI j)]) (va_Qi (fun (r : Int32) (u : va_W) => r = tk_med pa he aT j aS ∧ u = tk_w0 o q ca aP aH aT aA aG aK aZ (tk_mS pa he aT j aS) n) (tk_E (dC, dI) (tk_t0 ca) (va_A (tk_w0 o q ca aP aH aT aA aG aK aZ aS n) sz)) (va_A (tk_w0 o q ca aP aH aT aA aG aK aZ aS n) sz)) 0 0 (va_A (tk_w0 o q ca aP aH aT aA aG aK aZ aS n) sz) := by
  refine Met.ofW (cc := cX0_medianTime) (maxL := 5) (ret := (some .int)) (by decide) rfl ?_
  intro p e s m args below meth c s₁ B hml hv
  obtain ⟨rfl, hsz, hP, hK, hD0⟩ := hv
  have hx := B.exec
  have hb := B.bytes
  have hr := B.returns
  have hts := atoms_spec (ws := wsX0_medianTime) B.pre
  have hown : s.vm.findClass RX0 = some m.cls := findClass_of_methodNamed B.named
  have hlocks := B.notSynchronized
  have hin0 : ∀ w ∈ u_ws RX0 TX0 9, w ∈ wsX0_medianTime := by decide +kernel
  have fl13 := hts (.fieldLink RX0 13 "WorkTree" "heights" "[I") (by decide +kernel)
  have ml56 := hts (.methodLink RX0 56 Lib.Math.min.name) (by decide +kernel)
  have ms56 := hts (.static Lib.Math.min.name) (by decide +kernel)
  have mi56 := hts (.initialized "java/lang/Math") (by decide +kernel)
  have mc56 := hts (.code Lib.Math.min.name Lib.Math.min.code 2 (some .int)) (by decide +kernel)
  have fl16 := hts (.fieldLink RX0 16 "WorkTree" "times" "[I") (by decide +kernel)
  have fl9 := hts (.fieldLink RX0 9 "WorkTree" "parents" "[I") (by decide +kernel)
  have fl32 := hts (.fieldLink RX0 32 "WorkTree" "sortedTimes" "[I") (by decide +kernel)
  subst hsz
  have hD := hD0.self (sz := s.heap.size)
  generalize hAe : va_A (tk_w0 o q ca aP aH aT aA aG aK aZ aS n) s.heap.size = A at hD ⊢
  have hA : ∀ q : Nat, s.heap.size ≤ q → A q := fun q h => by rw [← hAe]; exact Or.inr h
  have hS : va_S A s.heap s.heap [] := va_S.rf
  have hl := lv_entry ([.ref o, .int (nI j)]) (n := 5) (Nat.le_of_ble_eq_true rfl)
  rw [lg_entry_eq]
  generalize (lg_sl ([.ref o, .int (nI j)]) ++ List.replicate (5 - (lg_sl ([.ref o, .int (nI j)])).length) Slot.unset).toArray = ls at hl ⊢
  have hl : lv_has ls 5 [(0, .ref o), (1, .int (nI j))] := hl
  refine tk_Q (fun Q hQ => ?_)
  have hn := hT.1.2
  have hjj := (hT.2.2.2.1 j hj).2
  obtain ⟨mn1, mn2⟩ := tk_mn_le (a := he j + 1) (b := 7)
  have hmed : tk_med pa he aT j aS = tk_md pa aT (tk_mn (he j + 1) 7) 0 j aS (tk_mn (he j + 1) 7 / 2) := rfl
  have hmS : tk_mS pa he aT j aS = tk_md pa aT (tk_mn (he j + 1) 7) 0 j aS := rfl
  have hmi := tk_mnI (a := he j + 1) (b := 7) (by omega) (by decide)
  generalize tk_mn (he j + 1) 7 = md at hmed hmS mn1 mn2 hmi
  generalize hzz : tk_md pa aT md 0 j aS = z at hmed hmS
  have loop : ∀ (c0 : Nat) (f i : Nat) (x : Int32) (S : Nat → Int32) (Hp : Heap) (locs : List Loc) (ls : Array Slot), f + c0 = md → (0 < c0 → x = nI i ∧ i < n ∧ he i + f = he j) → tk_md pa aT c0 f i S = z → va_P (dC, dI) vwCl (tk_w0 o q ca aP aH aT aA aG aK aZ S n) Hp → va_D A (tk_w0 o q ca aP aH aT aA aG aK aZ S n) → va_S A s.heap Hp locs → lv_has ls 5 [(4, .int (nI f)), (3, .int x), (2, .int (nI md)), (0, .ref o), (1, .int (nI j))] → W p l e (headSpec wsX0_medianTime ({ frames := 1, cells := 0, slots := 0, locals := 23 })).room s m ([.ref o, .int (nI j)] : List Value).toArray below meth c Hp locs 0 0 Q (F0 m 19 ls []) := by
    intro c0
    induction c0 with
    | zero =>
      intro f i x S Hp locs ls hfc hxi hz hP hD hS hl
      refine lv_iload hx hb dX0_medianTime_19 (lv_at hl 0 rfl) ?_
      refine lv_iload_n hx hb dX0_medianTime_21 rfl (lv_at hl 2 rfl) ?_
      refine lv_icmp_ge (tgt := 50) hx hb dX0_medianTime_22 (by decide) (fun hc22 => ?_) (fun hc22 => ?_)
      · refine lv_aload_n hx hb dX0_medianTime_50 rfl (lv_at hl 3 rfl) ?_
        refine va_get (D := (dC, dI)) (ci := 0) (v := .ref (q 7)) (C := RX0) (T := TX0) (N := 9) hx hb hts hin0 hown hK hP 0 rfl rfl 7 (by decide) fl32 (fun _ h9 => h9) rfl dX0_medianTime_51 ?_
        refine lv_iload_n hx hb dX0_medianTime_54 rfl (lv_at hl 2 rfl) ?_
        refine lv_iconst (v := nI 2) hx hb dX0_medianTime_55 (by decide +kernel) ?_
        refine lv_idiv hx hb dX0_medianTime_56 (by decide +kernel) ?_
        refine tk_top (y := nI (md / 2)) (pk_div (by omega) (by decide) (by decide)) ?_
        refine tk_rdi (v := S (md / 2)) hx hb hK hP 8 7 rfl rfl (md / 2) (by omega) (by decide) rfl dX0_medianTime_57 ?_
        subst hQ
        exact W.iret hx hb hr (fun t ht hW => ⟨⟨S (md / 2), tk_w0 o q ca aP aH aT aA aG aK aZ S n, rfl, ⟨(show S (md / 2) = tk_med pa he aT j aS from (hmed.trans (congrFun hz.symm (md / 2))).symm), (congrArg (fun S9 : Nat → Int32 => tk_w0 o q ca aP aH aT aA aG aK aZ S9 n) (hmS.trans hz.symm).symm)⟩, by rw [ht]; exact hP, va_K.moved hW.alike hK, hD⟩, hS.F ht⟩) hS.2.2 dX0_medianTime_58
      · exact absurd (nI_le (by omega) (by omega)) hc22
    | succ c0 ih =>
      intro f i x S Hp locs ls hfc hxi hz hP hD hS hl
      obtain ⟨rfl, hi, hei⟩ := hxi (by omega)
      have hii := (hT.2.2.2.1 i hi).2
      refine lv_iload hx hb dX0_medianTime_19 (lv_at hl 0 rfl) ?_
      refine lv_iload_n hx hb dX0_medianTime_21 rfl (lv_at hl 2 rfl) ?_
      refine lv_icmp_ge (tgt := 50) hx hb dX0_medianTime_22 (by decide) (fun hc22 => ?_) (fun hc22 => ?_)
      · exact absurd hc22 (nI_ge (by omega) (by omega))
      · refine lv_aload_n hx hb dX0_medianTime_25 rfl (lv_at hl 3 rfl) ?_
        refine lv_aload_n hx hb dX0_medianTime_26 rfl (lv_at hl 3 rfl) ?_
        refine va_get (D := (dC, dI)) (ci := 0) (v := .ref (q 2)) (C := RX0) (T := TX0) (N := 9) hx hb hts hin0 hown hK hP 0 rfl rfl 2 (by decide) fl16 (fun _ h9 => h9) rfl dX0_medianTime_27 ?_
        refine lv_iload_n hx hb dX0_medianTime_30 rfl (lv_at hl 1 rfl) ?_
        refine tk_rdi (v := aT i) hx hb hK hP 3 2 rfl rfl (i) (by omega) (by decide) rfl dX0_medianTime_31 ?_
        refine lv_iload hx hb dX0_medianTime_32 (lv_at hl 0 rfl) ?_
        have hFc := va_free (wc := tk_w0 o q ca aP aH aT aA aG aK aZ S n) hD hS hA [0, 1, 2, 3, 4, 5, 6, 7, 8] rfl
        refine va_callv (va_runV (As := [.int (aT i), .int (nI f)]) (rest := []) ⟨hx, hb, hml, hown, hts⟩ (c0_insertTime l dC dI o q ca aP aH aT aA aG aK aZ S n _ (aT i) f (by omega)) (cwV 2 hts gX0_medianTime_X0_insertTime rfl rfl rfl (by decide +kernel) ⟨Nat.le_of_ble_eq_true rfl, Nat.le_of_ble_eq_true rfl⟩) (tk_preW hK hP hD rfl rfl) rfl rfl hl.1 rfl (lv_room (Nat.le_of_ble_eq_true rfl)) dX0_medianTime_34 ⟨Nat.le_of_ble_eq_true rfl, Nat.le_of_ble_eq_true rfl⟩) hS (fun q _ h => hFc q h) hFc (fun u t Hp locs ht hvm hw hB hz1 hk1 hS => ?_)
        subst hw
        obtain ⟨hP, hK1, hD1⟩ := hB
        rw [ht] at hP
        have hD : va_D A (tk_w0 o q ca aP aH aT aA aG aK aZ (tk_ins (aT i) f S) n) := hD1.weaken (fun _ _ _ h => hFc _ h)
        refine lv_aload_n hx hb dX0_medianTime_37 rfl (lv_at hl 3 rfl) ?_
        refine va_get (D := (dC, dI)) (ci := 0) (v := .ref (q 0)) (C := RX0) (T := TX0) (N := 9) hx hb hts hin0 hown hK hP 0 rfl rfl 0 (by decide) fl9 (fun _ h9 => h9) rfl dX0_medianTime_38 ?_
        refine lv_iload_n hx hb dX0_medianTime_41 rfl (lv_at hl 1 rfl) ?_
        refine tk_rdi (v := aP i) hx hb hK hP 1 0 rfl rfl (i) (by omega) (by decide) rfl dX0_medianTime_42 ?_
        refine lv_istore_n hx hb dX0_medianTime_43 rfl hl (by decide) rfl (fun ls hl => ?_)
        have hl : lv_has ls 5 [(3, .int (aP i)), (4, .int (nI f)), (2, .int (nI md)), (0, .ref o), (1, .int (nI j))] := hl
        refine lv_iinc (k := 1) (v := nI (f + 1)) hx hb dX0_medianTime_44 hl rfl (tk_inc f) (by decide) rfl (fun ls hl => ?_)
        have hl : lv_has ls 5 [(4, .int (nI (f + 1))), (3, .int (aP i)), (2, .int (nI md)), (0, .ref o), (1, .int (nI j))] := hl
        refine lv_goto (tgt := 19) hx hb dX0_medianTime_47 (by decide) ?_
        exact ih (f + 1) (pa i) (aP i) _ Hp locs ls (by omega) (fun h9 => by obtain ⟨u1, u2, u3, u4⟩ := tk_up hT hi (by omega); exact ⟨u2, by omega, by omega⟩) hz hP hD hS hl
  refine lv_aload_n hx hb dX0_medianTime_0 rfl (lv_at hl 0 rfl) ?_
  refine va_get (D := (dC, dI)) (ci := 0) (v := .ref (q 1)) (C := RX0) (T := TX0) (N := 9) hx hb hts hin0 hown hK hP 0 rfl rfl 1 (by decide) fl13 (fun _ h9 => h9) rfl dX0_medianTime_1 ?_
  refine lv_iload_n hx hb dX0_medianTime_4 rfl (lv_at hl 1 rfl) ?_
  refine tk_rdi (v := nI (he j)) hx hb hK hP 2 1 rfl rfl (j) (by omega) (by decide) (hT.2.2.2.1 j hj).1 dX0_medianTime_5 ?_
  refine lv_iconst (v := nI 1) hx hb dX0_medianTime_6 (by decide +kernel) ?_
  refine lv_iadd hx hb dX0_medianTime_7 ?_
  refine tk_top (y := nI (he j + 1)) (tk_add1 _) ?_
  refine lv_bipush (v := nI 7) hx hb dX0_medianTime_8 (by decide +kernel) ?_
  refine va_mmin hx hb (hml.trans hl.1.symm) hown ml56 ms56 mi56 mc56 (Nat.le_of_ble_eq_true rfl) (Nat.le_of_ble_eq_true rfl) (Nat.le_of_ble_eq_true rfl) (Nat.le_of_ble_eq_true rfl) dX0_medianTime_10 ?_
  refine tk_top (y := nI md) hmi ?_
  refine lv_istore_n hx hb dX0_medianTime_13 rfl hl (by decide) rfl (fun ls hl => ?_)
  have hl : lv_has ls 5 [(2, .int (nI md)), (0, .ref o), (1, .int (nI j))] := hl
  refine lv_iload_n hx hb dX0_medianTime_14 rfl (lv_at hl 2 rfl) ?_
  refine lv_istore_n hx hb dX0_medianTime_15 rfl hl (by decide) rfl (fun ls hl => ?_)
  have hl : lv_has ls 5 [(3, .int (nI j)), (2, .int (nI md)), (0, .ref o), (1, .int (nI j))] := hl
  refine lv_iconst (v := nI 0) hx hb dX0_medianTime_16 (by decide +kernel) ?_
  refine lv_istore hx hb dX0_medianTime_17 hl (by decide) rfl (fun ls hl => ?_)
  have hl : lv_has ls 5 [(4, .int (nI 0)), (3, .int (nI j)), (2, .int (nI md)), (0, .ref o), (1, .int (nI j))] := hl
  exact loop md 0 j (nI j) aS s.heap [] ls (by omega) (fun _ => ⟨rfl, hj, by omega⟩) hzz hP hD hS hl
set_option maxHeartbeats 4000000 in
set_option maxRecDepth 100000 in
theorem c0_median (l : Launch) (dC : Nat → ClassId) (dI : Nat → Nat → Nat) (o : Nat) (q : Nat → Nat) (ca : Nat → ClassId) (aP aH aT aA aG aK aZ aS : Nat → Int32) (n : Nat) (sz : Nat) (pa he : Nat → Nat) (hT : tk_I aP aH pa he n) (b : Int32) : Met l yX0_median wsX0_median ({ frames := 2, cells := 0, slots := 0, locals := 47 }) (tk_Wp (dC, dI) (tk_w0 o q ca aP aH aT aA aG aK aZ aS n) (tk_t0 ca) sz [.ref o, .int b]) (va_Qi (fun (r : Int32) (u : va_W) => r = tk_pb n b (fun j => tk_med pa he aT j aS) ∧ u = tk_w0 o q ca aP aH aT aA aG aK aZ (tk_mb pa he aT n b aS) n) (tk_E (dC, dI) (tk_t0 ca) (va_A (tk_w0 o q ca aP aH aT aA aG aK aZ aS n) sz)) (va_A (tk_w0 o q ca aP aH aT aA aG aK aZ aS n) sz)) 0 0 (va_A (tk_w0 o q ca aP aH aT aA aG aK aZ aS n) sz) := by
  refine Met.ofW (cc := cX0_median) (maxL := 2) (ret := (some .int)) (by decide) rfl ?_
  intro p e s m args below meth c s₁ B hml hv
  obtain ⟨rfl, hsz, hP, hK, hD0⟩ := hv
  have hx := B.exec
  have hb := B.bytes
  have hr := B.returns
  have hts := atoms_spec (ws := wsX0_median) B.pre
  have hown : s.vm.findClass RX0 = some m.cls := findClass_of_methodNamed B.named
  have hlocks := B.notSynchronized
  subst hsz
  have hD := hD0.self (sz := s.heap.size)
  generalize hAe : va_A (tk_w0 o q ca aP aH aT aA aG aK aZ aS n) s.heap.size = A at hD ⊢
  have hA : ∀ q : Nat, s.heap.size ≤ q → A q := fun q h => by rw [← hAe]; exact Or.inr h
  have hS : va_S A s.heap s.heap [] := va_S.rf
  have hl := lv_entry ([.ref o, .int b]) (n := 2) (Nat.le_of_ble_eq_true rfl)
  rw [lg_entry_eq]
  generalize (lg_sl ([.ref o, .int b]) ++ List.replicate (2 - (lg_sl ([.ref o, .int b])).length) Slot.unset).toArray = ls at hl ⊢
  have hl : lv_has ls 2 [(0, .ref o), (1, .int b)] := hl
  refine tk_Q (fun Q hQ => ?_)
  have hn := hT.1.2
  refine lv_aload_n hx hb dX0_median_0 rfl (lv_at hl 0 rfl) ?_
  refine lv_iload_n hx hb dX0_median_1 rfl (lv_at hl 1 rfl) ?_
  refine vp_callSi (W.runV (As := [.int b]) (rest := []) ⟨hx, hb, hml, hown, hts⟩ (c0_exists l dC dI o q ca aP aH aT aA aG aK aZ aS n b) (cwV 1 hts gX0_median_X0_exists rfl rfl rfl (by decide +kernel) ⟨Nat.le_of_ble_eq_true rfl, Nat.le_of_ble_eq_true rfl⟩) (tk_pre hK hP rfl rfl) rfl rfl hl.1 rfl (lv_room (Nat.le_of_ble_eq_true rfl)) dX0_median_2 ⟨Nat.le_of_ble_eq_true rfl, Nat.le_of_ble_eq_true rfl⟩) (fun r hr1 => ?_)
  refine tk_top (y := tk_ex n b) hr1 ?_
  refine lv_if_eq (tgt := 16) hx hb dX0_median_5 (by decide) (fun hc5 => ?_) (fun hc5 => ?_)
  · refine lv_bipush (v := -2) hx hb dX0_median_16 (by decide +kernel) ?_
    subst hQ
    exact W.iret hx hb hr (fun t ht hW => ⟨⟨-2, tk_w0 o q ca aP aH aT aA aG aK aZ aS n, rfl, ⟨(tk_pb0 hc5).symm, congrArg (fun S9 : Nat → Int32 => tk_w0 o q ca aP aH aT aA aG aK aZ S9 n) (tk_mb0 hc5).symm⟩, by rw [ht]; exact hP, va_K.moved hW.alike hK, hD⟩, hS.F ht⟩) hS.2.2 dX0_median_18
  · obtain ⟨j, hj, rfl⟩ := tk_ex_t hn hc5
    refine lv_aload_n hx hb dX0_median_8 rfl (lv_at hl 0 rfl) ?_
    refine lv_iload_n hx hb dX0_median_9 rfl (lv_at hl 1 rfl) ?_
    have hFc := va_free (wc := tk_w0 o q ca aP aH aT aA aG aK aZ aS n) hD hS hA [0, 1, 2, 3, 4, 5, 6, 7, 8] rfl
    refine va_calli (va_runV (As := [.int (nI j)]) (rest := []) ⟨hx, hb, hml, hown, hts⟩ (c0_medianTime l dC dI o q ca aP aH aT aA aG aK aZ aS n _ pa he hT j hj) (cwV 1 hts gX0_median_X0_medianTime rfl rfl rfl (by decide +kernel) ⟨Nat.le_of_ble_eq_true rfl, Nat.le_of_ble_eq_true rfl⟩) (tk_preW hK hP hD rfl rfl) rfl rfl hl.1 rfl (lv_room (Nat.le_of_ble_eq_true rfl)) dX0_median_10 ⟨Nat.le_of_ble_eq_true rfl, Nat.le_of_ble_eq_true rfl⟩) hS (fun q _ h => hFc q h) hFc (fun r u t Hp locs ht hvm hw hB hz1 hk1 hS => ?_)
    obtain ⟨hr1, hw⟩ := hw
    subst hw
    obtain ⟨hP, hK1, hD1⟩ := hB
    rw [ht] at hP
    have hD : va_D A (tk_w0 o q ca aP aH aT aA aG aK aZ (tk_mS pa he aT j aS) n) := hD1.weaken (fun _ _ _ h => hFc _ h)
    refine tk_top (y := tk_med pa he aT j aS) hr1 ?_
    refine lv_goto (tgt := 18) hx hb dX0_median_13 (by decide) ?_
    subst hQ
    exact W.iret hx hb hr (fun t ht hW => ⟨⟨tk_med pa he aT j aS, tk_w0 o q ca aP aH aT aA aG aK aZ (tk_mS pa he aT j aS) n, rfl, ⟨(tk_pbn (f := fun j => tk_med pa he aT j aS) hn hj).symm, congrArg (fun S9 : Nat → Int32 => tk_w0 o q ca aP aH aT aA aG aK aZ S9 n) (tk_mbn hn hj).symm⟩, by rw [ht]; exact hP, va_K.moved hW.alike hK, hD⟩, hS.F ht⟩) hS.2.2 dX0_median_18
