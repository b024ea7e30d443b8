set_option maxHeartbeats 4000000 in
set_option maxRecDepth 100000 in
theorem c0_exists (l : Launch) (dC : Nat → ClassId) (dI : Nat → Nat → Nat) (o : Nat) (q : Nat → Nat) (ca : Nat → ClassId) (aP aH aT aA aG aK aZ aS : Nat → Int32) (n : Nat) (b : Int32) : Met l yX0_exists wsX0_exists ({ frames := 0, cells := 0, slots := 0, locals := 0 }) (tk_R (dC, dI) (tk_w0 o q ca aP aH aT aA aG aK aZ aS n) (tk_t0 ca) [.ref o, .int b]) (vp_Si (fun r => r = tk_ex n b)) 0 0 (fun _ => False) := by
  refine Met.ofW (cc := cX0_exists) (maxL := 2) (ret := (some .boolean)) (by decide) rfl ?_
  intro p e s m args below meth c s₁ B hml hv
  obtain ⟨rfl, hP, hK⟩ := hv
  have hx := B.exec
  have hb := B.bytes
  have hr := B.returns
  have hts := atoms_spec (ws := wsX0_exists) B.pre
  have hown : s.vm.findClass RX0 = some m.cls := findClass_of_methodNamed B.named
  have hlocks := B.notSynchronized
  have hin0 : ∀ w ∈ u_ws RX0 TX0 9, w ∈ wsX0_exists := by decide +kernel
  have fl36 := hts (.fieldLink RX0 36 "WorkTree" "count" "I") (by decide +kernel)
  have hl := lv_entry ([.ref o, .int b]) (n := 2) (Nat.le_of_ble_eq_true rfl)
  rw [lg_entry_eq]
  generalize (lg_sl ([.ref o, .int b]) ++ List.replicate (2 - (lg_sl ([.ref o, .int b])).length) Slot.unset).toArray = ls at hl ⊢
  have hl : lv_has ls 2 [(0, .ref o), (1, .int b)] := hl
  refine tk_Q (fun Q hQ => ?_)
  refine lv_iload_n hx hb dX0_exists_0 rfl (lv_at hl 1 rfl) ?_
  refine lv_if_lt (tgt := 16) hx hb dX0_exists_1 (by decide) (fun hc1 => ?_) (fun hc1 => ?_)
  · refine lv_iconst (v := 0) hx hb dX0_exists_16 (by decide +kernel) ?_
    subst hQ
    exact tk_zret hx hb hr hlocks rfl (show (0 : Int32) = tk_ex n b from by unfold tk_ex; rw [if_pos hc1]) dX0_exists_17
  · refine lv_iload_n hx hb dX0_exists_4 rfl (lv_at hl 1 rfl) ?_
    refine lv_aload_n hx hb dX0_exists_5 rfl (lv_at hl 0 rfl) ?_
    refine va_get (D := (dC, dI)) (ci := 0) (v := .int (nI n)) (C := RX0) (T := TX0) (N := 9) hx hb hts hin0 hown hK hP 0 rfl rfl 8 (by decide) fl36 (fun _ h9 => h9) rfl dX0_exists_6 ?_
    refine lv_icmp_ge (tgt := 16) hx hb dX0_exists_9 (by decide) (fun hc9 => ?_) (fun hc9 => ?_)
    · refine lv_iconst (v := 0) hx hb dX0_exists_16 (by decide +kernel) ?_
      subst hQ
      exact tk_zret hx hb hr hlocks rfl (show (0 : Int32) = tk_ex n b from by unfold tk_ex; rw [if_neg hc1, if_pos hc9]) dX0_exists_17
    · refine lv_iconst (v := 1) hx hb dX0_exists_12 (by decide +kernel) ?_
      refine lv_goto (tgt := 17) hx hb dX0_exists_13 (by decide) ?_
      subst hQ
      exact tk_zret hx hb hr hlocks rfl (show (1 : Int32) = tk_ex n b from by unfold tk_ex; rw [if_neg hc1, if_neg hc9]) dX0_exists_17
set_option maxHeartbeats 4000000 in
set_option maxRecDepth 100000 in
theorem c1_is (l : Launch) (dC : Nat → ClassId) (dI : Nat → Nat → Nat) (o : Nat) (q : Nat → Nat) (ca : Nat → ClassId) (aP aH aT aG : Nat → Int32) (aL : Nat → Int64) (aA aF aS : Nat → Int32) (n : Nat) (b : Int32) : Met l yX1_is wsX1_is ({ frames := 0, cells := 0, slots := 0, locals := 0 }) (tk_R (dC, dI) (tk_w1 o q ca aP aH aT aG aL aA aF aS n) (tk_t1 ca) [.ref o, .int b]) (vp_Si (fun r => r = tk_ex n b)) 0 0 (fun _ => False) := by
  refine Met.ofW (cc := cX1_is) (maxL := 2) (ret := (some .boolean)) (by decide) rfl ?_
  intro p e s m args below meth c s₁ B hml hv
  obtain ⟨rfl, hP, hK⟩ := hv
  have hx := B.exec
  have hb := B.bytes
  have hr := B.returns
  have hts := atoms_spec (ws := wsX1_is) B.pre
  have hown : s.vm.findClass RX1 = some m.cls := findClass_of_methodNamed B.named
  have hlocks := B.notSynchronized
  have hin0 : ∀ w ∈ u_ws RX1 TX1 9, w ∈ wsX1_is := by decide +kernel
  have fl36 := hts (.fieldLink RX1 36 "WorkTreeModel" "count" "I") (by decide +kernel)
  have hl := lv_entry ([.ref o, .int b]) (n := 2) (Nat.le_of_ble_eq_true rfl)
  rw [lg_entry_eq]
  generalize (lg_sl ([.ref o, .int b]) ++ List.replicate (2 - (lg_sl ([.ref o, .int b])).length) Slot.unset).toArray = ls at hl ⊢
  have hl : lv_has ls 2 [(0, .ref o), (1, .int b)] := hl
  refine tk_Q (fun Q hQ => ?_)
  refine lv_iload_n hx hb dX1_is_0 rfl (lv_at hl 1 rfl) ?_
  refine lv_if_lt (tgt := 16) hx hb dX1_is_1 (by decide) (fun hc1 => ?_) (fun hc1 => ?_)
  · refine lv_iconst (v := 0) hx hb dX1_is_16 (by decide +kernel) ?_
    subst hQ
    exact tk_zret hx hb hr hlocks rfl (show (0 : Int32) = tk_ex n b from by unfold tk_ex; rw [if_pos hc1]) dX1_is_17
  · refine lv_iload_n hx hb dX1_is_4 rfl (lv_at hl 1 rfl) ?_
    refine lv_aload_n hx hb dX1_is_5 rfl (lv_at hl 0 rfl) ?_
    refine va_get (D := (dC, dI)) (ci := 1) (v := .int (nI n)) (C := RX1) (T := TX1) (N := 9) hx hb hts hin0 hown hK hP 0 rfl rfl 8 (by decide) fl36 (fun _ h9 => h9) rfl dX1_is_6 ?_
    refine lv_icmp_ge (tgt := 16) hx hb dX1_is_9 (by decide) (fun hc9 => ?_) (fun hc9 => ?_)
    · refine lv_iconst (v := 0) hx hb dX1_is_16 (by decide +kernel) ?_
      subst hQ
      exact tk_zret hx hb hr hlocks rfl (show (0 : Int32) = tk_ex n b from by unfold tk_ex; rw [if_neg hc1, if_pos hc9]) dX1_is_17
    · refine lv_iconst (v := 1) hx hb dX1_is_12 (by decide +kernel) ?_
      refine lv_goto (tgt := 17) hx hb dX1_is_13 (by decide) ?_
      subst hQ
      exact tk_zret hx hb hr hlocks rfl (show (1 : Int32) = tk_ex n b from by unfold tk_ex; rw [if_neg hc1, if_neg hc9]) dX1_is_17
set_option maxHeartbeats 4000000 in
set_option maxRecDepth 100000 in
theorem c0_blocks (l : Launch) (dC : Nat → ClassId) (dI : Nat → Nat → Nat) (o : Nat) (q : Nat → Nat) (ca : Nat → ClassId) (aP aH aT aA aG aK aZ aS : Nat → Int32) (n : Nat)  : Met l yX0_blocks wsX0_blocks ({ frames := 0, cells := 0, slots := 0, locals := 0 }) (tk_R (dC, dI) (tk_w0 o q ca aP aH aT aA aG aK aZ aS n) (tk_t0 ca) [.ref o]) (vp_Si (fun r => r = nI n)) 0 0 (fun _ => False) := by
  refine Met.ofW (cc := cX0_blocks) (maxL := 1) (ret := (some .int)) (by decide) rfl ?_
  intro p e s m args below meth c s₁ B hml hv
  obtain ⟨rfl, hP, hK⟩ := hv
  have hx := B.exec
  have hb := B.bytes
  have hr := B.returns
  have hts := atoms_spec (ws := wsX0_blocks) B.pre
  have hown : s.vm.findClass RX0 = some m.cls := findClass_of_methodNamed B.named
  have hlocks := B.notSynchronized
  have hin0 : ∀ w ∈ u_ws RX0 TX0 9, w ∈ wsX0_blocks := by decide +kernel
  have fl36 := hts (.fieldLink RX0 36 "WorkTree" "count" "I") (by decide +kernel)
  have hl := lv_entry ([.ref o]) (n := 1) (Nat.le_of_ble_eq_true rfl)
  rw [lg_entry_eq]
  generalize (lg_sl ([.ref o]) ++ List.replicate (1 - (lg_sl ([.ref o])).length) Slot.unset).toArray = ls at hl ⊢
  have hl : lv_has ls 1 [(0, .ref o)] := hl
  refine tk_Q (fun Q hQ => ?_)
  refine lv_aload_n hx hb dX0_blocks_0 rfl (lv_at hl 0 rfl) ?_
  refine va_get (D := (dC, dI)) (ci := 0) (v := .int (nI n)) (C := RX0) (T := TX0) (N := 9) hx hb hts hin0 hown hK hP 0 rfl rfl 8 (by decide) fl36 (fun _ h9 => h9) rfl dX0_blocks_1 ?_
  subst hQ
  exact tk_iret hx hb hr hlocks rfl dX0_blocks_4
set_option maxHeartbeats 4000000 in
set_option maxRecDepth 100000 in
theorem c1_blocks (l : Launch) (dC : Nat → ClassId) (dI : Nat → Nat → Nat) (o : Nat) (q : Nat → Nat) (ca : Nat → ClassId) (aP aH aT aG : Nat → Int32) (aL : Nat → Int64) (aA aF aS : Nat → Int32) (n : Nat)  : Met l yX1_blocks wsX1_blocks ({ frames := 0, cells := 0, slots := 0, locals := 0 }) (tk_R (dC, dI) (tk_w1 o q ca aP aH aT aG aL aA aF aS n) (tk_t1 ca) [.ref o]) (vp_Si (fun r => r = nI n)) 0 0 (fun _ => False) := by
  refine Met.ofW (cc := cX1_blocks) (maxL := 1) (ret := (some .int)) (by decide) rfl ?_
  intro p e s m args below meth c s₁ B hml hv
  obtain ⟨rfl, hP, hK⟩ := hv
  have hx := B.exec
  have hb := B.bytes
  have hr := B.returns
  have hts := atoms_spec (ws := wsX1_blocks) B.pre
  have hown : s.vm.findClass RX1 = some m.cls := findClass_of_methodNamed B.named
  have hlocks := B.notSynchronized
  have hin0 : ∀ w ∈ u_ws RX1 TX1 9, w ∈ wsX1_blocks := by decide +kernel
  have fl36 := hts (.fieldLink RX1 36 "WorkTreeModel" "count" "I") (by decide +kernel)
  have hl := lv_entry ([.ref o]) (n := 1) (Nat.le_of_ble_eq_true rfl)
  rw [lg_entry_eq]
  generalize (lg_sl ([.ref o]) ++ List.replicate (1 - (lg_sl ([.ref o])).length) Slot.unset).toArray = ls at hl ⊢
  have hl : lv_has ls 1 [(0, .ref o)] := hl
  refine tk_Q (fun Q hQ => ?_)
  refine lv_aload_n hx hb dX1_blocks_0 rfl (lv_at hl 0 rfl) ?_
  refine va_get (D := (dC, dI)) (ci := 1) (v := .int (nI n)) (C := RX1) (T := TX1) (N := 9) hx hb hts hin0 hown hK hP 0 rfl rfl 8 (by decide) fl36 (fun _ h9 => h9) rfl dX1_blocks_1 ?_
  subst hQ
  exact tk_iret hx hb hr hlocks rfl dX1_blocks_4
set_option maxHeartbeats 4000000 in
set_option maxRecDepth 100000 in
theorem c0_within (l : Launch) (v lo hi : Int32) : Met l yX0_within wsX0_within ({ frames := 1, cells := 0, slots := 0, locals := 14 }) (va_Pc [.int v, .int lo, .int hi] (fun _ => True)) (vp_Si (fun r => r = tk_wi v lo hi)) 0 0 (fun _ => False) := by
  refine Met.ofW (cc := cX0_within) (maxL := 3) (ret := (some .int)) (by decide) rfl ?_
  intro p e s m args below meth c s₁ B hml hv
  obtain ⟨rfl, -⟩ := hv
  have hx := B.exec
  have hb := B.bytes
  have hr := B.returns
  have hts := atoms_spec (ws := wsX0_within) B.pre
  have hown : s.vm.findClass RX0 = some m.cls := findClass_of_methodNamed B.named
  have hlocks := B.notSynchronized
  have ml56 := hts (.methodLink RX0 56 Lib.Math.min.name) (by decide +kernel)
  have ms56 := hts (.static Lib.Math.min.name) (by decide +kernel)
  have mi56 := hts (.initialized "java/lang/Math") (by decide +kernel)
  have mc56 := hts (.code Lib.Math.min.name Lib.Math.min.code 2 (some .int)) (by decide +kernel)
  have ml78 := hts (.methodLink RX0 78 Lib.Math.max.name) (by decide +kernel)
  have ms78 := hts (.static Lib.Math.max.name) (by decide +kernel)
  have mi78 := hts (.initialized "java/lang/Math") (by decide +kernel)
  have mc78 := hts (.code Lib.Math.max.name Lib.Math.max.code 2 (some .int)) (by decide +kernel)
  have hl := lv_entry ([.int v, .int lo, .int hi]) (n := 3) (Nat.le_of_ble_eq_true rfl)
  rw [lg_entry_eq]
  generalize (lg_sl ([.int v, .int lo, .int hi]) ++ List.replicate (3 - (lg_sl ([.int v, .int lo, .int hi])).length) Slot.unset).toArray = ls at hl ⊢
  have hl : lv_has ls 3 [(0, .int v), (1, .int lo), (2, .int hi)] := hl
  refine tk_Q (fun Q hQ => ?_)
  refine lv_iload_n hx hb dX0_within_0 rfl (lv_at hl 1 rfl) ?_
  refine lv_iload_n hx hb dX0_within_1 rfl (lv_at hl 2 rfl) ?_
  refine lv_iload_n hx hb dX0_within_2 rfl (lv_at hl 0 rfl) ?_
  refine va_mmin hx hb (hml.trans hl.1.symm) hown ml56 ms56 mi56 mc56 (Nat.le_of_ble_eq_true rfl) (Nat.le_of_ble_eq_true rfl) (Nat.le_of_ble_eq_true rfl) (Nat.le_of_ble_eq_true rfl) dX0_within_3 ?_
  refine va_mmax hx hb (hml.trans hl.1.symm) hown ml78 ms78 mi78 mc78 (Nat.le_of_ble_eq_true rfl) (Nat.le_of_ble_eq_true rfl) (Nat.le_of_ble_eq_true rfl) (Nat.le_of_ble_eq_true rfl) dX0_within_6 ?_
  subst hQ
  exact tk_iret hx hb hr hlocks rfl dX0_within_9
