theorem tk_arI (n : Nat) : ∀ cA : ClassId, vp_cell cA (n, .inl (fun _ => 0)) = arrV cA n (fun _ => defaultValue .int) := fun _ => rfl
theorem tk_arZ (n : Nat) : ∀ cA : ClassId, vp_cell cA (n, .inl (fun _ => 0)) = arrV cA n (fun _ => defaultValue .boolean) := fun _ => rfl
theorem tk_arL (n : Nat) : ∀ cA : ClassId, vp_cell cA (n, .inr (.inl (fun _ => 0))) = arrV cA n (fun _ => defaultValue .long) := fun _ => rfl
abbrev tk_0 : Nat → Int32 := fun _ => 0
abbrev tk_P0 : Nat → Int32 := upd (fun _ => 0) 0 (-2)
abbrev tk_G0 : Nat → Int32 := upd (fun _ => 0) 0 (nI 32768)
def tk_pk {α : Type} (a0 a1 a2 a3 a4 a5 a6 a7 : α) : Nat → α := fun k => match k with
  | 0 => a0
  | 1 => a1
  | 2 => a2
  | 3 => a3
  | 4 => a4
  | 5 => a5
  | 6 => a6
  | _ => a7
set_option maxHeartbeats 4000000 in
set_option maxRecDepth 100000 in
theorem c0_init (l : Launch) (dC : Nat → ClassId) (dI : Nat → Nat → Nat) (o sz : Nat) : Met l yX0_init wsX0_init ({ frames := 1, cells := 8, slots := 3591, locals := 12 }) (tk_Wp (dC, dI) [(o, .inr (0, [.null, .null, .null, .null, .null, .null, .null, .null, .int 0]))] [] sz [.ref o]) (va_Qv (fun _ : (Nat → Nat) × (Nat → ClassId) => True) (fun u t => tk_E (dC, dI) (tk_t0 u.2) (va_A [(o, .inr (0, [.null, .null, .null, .null, .null, .null, .null, .null, .int 0]))] sz) (tk_w0 o u.1 u.2 tk_P0 tk_0 tk_0 tk_0 tk_G0 tk_0 tk_0 tk_0 1) t) (va_A [(o, .inr (0, [.null, .null, .null, .null, .null, .null, .null, .null, .int 0]))] sz)) 8 3591 (va_A [(o, .inr (0, [.null, .null, .null, .null, .null, .null, .null, .null, .int 0]))] sz) := by
  refine Met.ofW (cc := cX0_init) (maxL := 1) (ret := none) (by decide) rfl ?_
  intro p e s m args below meth c s₁ B hml hv
  obtain ⟨rfl, hsz, hP, hK, hD0⟩ := hv
  have hx := B.exec
  have hb := B.bytes
  have hr := B.returns
  have hts := atoms_spec (ws := wsX0_init) B.pre
  have hown : s.vm.findClass RX0 = some m.cls := findClass_of_methodNamed B.named
  have hlocks := B.notSynchronized
  have hin : meth.name = "<init>" := (name_of_methodNamed B.named B.method).1
  have hin0 : ∀ w ∈ u_ws RX0 TX0 9, w ∈ wsX0_init := by decide +kernel
  have fl9 := hts (.fieldLink RX0 9 "WorkTree" "parents" "[I") (by decide +kernel)
  have fl13 := hts (.fieldLink RX0 13 "WorkTree" "heights" "[I") (by decide +kernel)
  have fl16 := hts (.fieldLink RX0 16 "WorkTree" "times" "[I") (by decide +kernel)
  have fl19 := hts (.fieldLink RX0 19 "WorkTree" "arrivals" "[I") (by decide +kernel)
  have fl22 := hts (.fieldLink RX0 22 "WorkTree" "targets" "[I") (by decide +kernel)
  have fl25 := hts (.fieldLink RX0 25 "WorkTree" "works" "[I") (by decide +kernel)
  have fl28 := hts (.fieldLink RX0 28 "WorkTree" "wrong" "[Z") (by decide +kernel)
  have fl32 := hts (.fieldLink RX0 32 "WorkTree" "sortedTimes" "[I") (by decide +kernel)
  have kc35 := hts (.constant RX0 35 (32768)) (by decide +kernel)
  have fl36 := hts (.fieldLink RX0 36 "WorkTree" "count" "I") (by decide +kernel)
  subst hsz
  have hD := hD0.self (sz := s.heap.size)
  generalize hAe : va_A [(o, .inr (0, [.null, .null, .null, .null, .null, .null, .null, .null, .int 0]))] s.heap.size = A at hD ⊢
  have hA : ∀ q : Nat, s.heap.size ≤ q → A q := fun q h => by rw [← hAe]; exact Or.inr h
  have hS : va_S A s.heap s.heap [] := va_S.rf
  have hl := lv_entry ([.ref o]) (n := 1) (Nat.le_of_ble_eq_true rfl)
  rw [lg_entry_eq]
  generalize (lg_sl ([.ref o]) ++ List.replicate (1 - (lg_sl ([.ref o])).length) Slot.unset).toArray = ls at hl ⊢
  have hl : lv_has ls 1 [(0, .ref o)] := hl
  refine lv_aload_n hx hb dX0_init_0 rfl (lv_at hl 0 rfl) ?_
  refine W.objInit hx hb hown (hts (.methodLink RX0 1 objectInit) (by decide +kernel)) (hts (.instanceMethod objectInit) (by decide +kernel)) (hts (.code objectInit ⟨#[0xb1]⟩ 1 none) (by decide +kernel)) rfl (by rw [hml]; exact hl.1) rfl dX0_init_1 (Nat.le_of_ble_eq_true rfl) (Nat.le_of_ble_eq_true rfl) ?_
  refine W.eq (g2 := F0 m 4 ls []) rfl ?_
  refine lv_aload_n hx hb dX0_init_4 rfl (lv_at hl 0 rfl) ?_
  refine lv_sipush (v := nI 512) hx hb dX0_init_5 (by decide +kernel) ?_
  refine va_newa (atype := .int) (ty := .int) (N' := 512) (a0 := (512, .inl (fun _ => 0))) hx hb (hts (.arrayClass .int) (by decide +kernel)) rfl hK hP hD hS hA (tk_arI 512) (by decide +kernel) (by decide +kernel) (by decide +kernel) (by decide +kernel) (by decide +kernel) dX0_init_8 (fun q0 c0 Hp hK hP hD hS => ?_)
  have hP : va_P (dC, dI) vwCl [(o, .inr (0, [.null, .null, .null, .null, .null, .null, .null, .null, .int 0])), (q0, .inl (c0, 512, .inl (fun _ => 0)))] Hp := hP
  have hD : va_D A [(o, .inr (0, [.null, .null, .null, .null, .null, .null, .null, .null, .int 0])), (q0, .inl (c0, 512, .inl (fun _ => 0)))] := hD
  have hK : va_K (dC, dI) vwCl [(c0, .int)] s := hK
  refine W.widen (k := 1) (n := 512) (by omega) (by omega) ?_
  refine va_putF (D := (dC, dI)) (ci := 0) (v := .ref q0) (ty := .array .int) (C := RX0) (T := TX0) (N := 9) hx hb hts hin0 tyX0 tyX0_ok nmX0 hown hK hP hD hS 0 rfl rfl 0 (by decide) fl9 (fun _ h9 => h9) rfl hin rfl (by decide +kernel) rfl rfl (Nat.le_of_ble_eq_true rfl) dX0_init_10 (fun Hp locs hP hD hS => ?_)
  have hP : va_P (dC, dI) vwCl [(o, .inr (0, [.ref q0, .null, .null, .null, .null, .null, .null, .null, .int 0])), (q0, .inl (c0, 512, .inl (fun _ => 0)))] Hp := hP
  have hD : va_D A [(o, .inr (0, [.ref q0, .null, .null, .null, .null, .null, .null, .null, .int 0])), (q0, .inl (c0, 512, .inl (fun _ => 0)))] := hD
  refine lv_aload_n hx hb dX0_init_13 rfl (lv_at hl 0 rfl) ?_
  refine lv_sipush (v := nI 512) hx hb dX0_init_14 (by decide +kernel) ?_
  refine va_newa (atype := .int) (ty := .int) (N' := 512) (a0 := (512, .inl (fun _ => 0))) hx hb (hts (.arrayClass .int) (by decide +kernel)) rfl hK hP hD hS hA (tk_arI 512) (by decide +kernel) (by decide +kernel) (by decide +kernel) (by decide +kernel) (by decide +kernel) dX0_init_17 (fun q1 c1 Hp hK hP hD hS => ?_)
  have hP : va_P (dC, dI) vwCl [(o, .inr (0, [.ref q0, .null, .null, .null, .null, .null, .null, .null, .int 0])), (q0, .inl (c0, 512, .inl (fun _ => 0))), (q1, .inl (c1, 512, .inl (fun _ => 0)))] Hp := hP
  have hD : va_D A [(o, .inr (0, [.ref q0, .null, .null, .null, .null, .null, .null, .null, .int 0])), (q0, .inl (c0, 512, .inl (fun _ => 0))), (q1, .inl (c1, 512, .inl (fun _ => 0)))] := hD
  have hK : va_K (dC, dI) vwCl [(c0, .int), (c1, .int)] s := hK
  refine W.widen (k := 2) (n := 1024) (by omega) (by omega) ?_
  refine va_putF (D := (dC, dI)) (ci := 0) (v := .ref q1) (ty := .array .int) (C := RX0) (T := TX0) (N := 9) hx hb hts hin0 tyX0 tyX0_ok nmX0 hown hK hP hD hS 0 rfl rfl 1 (by decide) fl13 (fun _ h9 => h9) rfl hin rfl (by decide +kernel) rfl rfl (Nat.le_of_ble_eq_true rfl) dX0_init_19 (fun Hp locs hP hD hS => ?_)
  have hP : va_P (dC, dI) vwCl [(o, .inr (0, [.ref q0, .ref q1, .null, .null, .null, .null, .null, .null, .int 0])), (q0, .inl (c0, 512, .inl (fun _ => 0))), (q1, .inl (c1, 512, .inl (fun _ => 0)))] Hp := hP
  have hD : va_D A [(o, .inr (0, [.ref q0, .ref q1, .null, .null, .null, .null, .null, .null, .int 0])), (q0, .inl (c0, 512, .inl (fun _ => 0))), (q1, .inl (c1, 512, .inl (fun _ => 0)))] := hD
  refine lv_aload_n hx hb dX0_init_22 rfl (lv_at hl 0 rfl) ?_
  refine lv_sipush (v := nI 512) hx hb dX0_init_23 (by decide +kernel) ?_
  refine va_newa (atype := .int) (ty := .int) (N' := 512) (a0 := (512, .inl (fun _ => 0))) hx hb (hts (.arrayClass .int) (by decide +kernel)) rfl hK hP hD hS hA (tk_arI 512) (by decide +kernel) (by decide +kernel) (by decide +kernel) (by decide +kernel) (by decide +kernel) dX0_init_26 (fun q2 c2 Hp hK hP hD hS => ?_)
  have hP : va_P (dC, dI) vwCl [(o, .inr (0, [.ref q0, .ref q1, .null, .null, .null, .null, .null, .null, .int 0])), (q0, .inl (c0, 512, .inl (fun _ => 0))), (q1, .inl (c1, 512, .inl (fun _ => 0))), (q2, .inl (c2, 512, .inl (fun _ => 0)))] Hp := hP
  have hD : va_D A [(o, .inr (0, [.ref q0, .ref q1, .null, .null, .null, .null, .null, .null, .int 0])), (q0, .inl (c0, 512, .inl (fun _ => 0))), (q1, .inl (c1, 512, .inl (fun _ => 0))), (q2, .inl (c2, 512, .inl (fun _ => 0)))] := hD
  have hK : va_K (dC, dI) vwCl [(c0, .int), (c1, .int), (c2, .int)] s := hK
  refine W.widen (k := 3) (n := 1536) (by omega) (by omega) ?_
  refine va_putF (D := (dC, dI)) (ci := 0) (v := .ref q2) (ty := .array .int) (C := RX0) (T := TX0) (N := 9) hx hb hts hin0 tyX0 tyX0_ok nmX0 hown hK hP hD hS 0 rfl rfl 2 (by decide) fl16 (fun _ h9 => h9) rfl hin rfl (by decide +kernel) rfl rfl (Nat.le_of_ble_eq_true rfl) dX0_init_28 (fun Hp locs hP hD hS => ?_)
  have hP : va_P (dC, dI) vwCl [(o, .inr (0, [.ref q0, .ref q1, .ref q2, .null, .null, .null, .null, .null, .int 0])), (q0, .inl (c0, 512, .inl (fun _ => 0))), (q1, .inl (c1, 512, .inl (fun _ => 0))), (q2, .inl (c2, 512, .inl (fun _ => 0)))] Hp := hP
  have hD : va_D A [(o, .inr (0, [.ref q0, .ref q1, .ref q2, .null, .null, .null, .null, .null, .int 0])), (q0, .inl (c0, 512, .inl (fun _ => 0))), (q1, .inl (c1, 512, .inl (fun _ => 0))), (q2, .inl (c2, 512, .inl (fun _ => 0)))] := hD
  refine lv_aload_n hx hb dX0_init_31 rfl (lv_at hl 0 rfl) ?_
  refine lv_sipush (v := nI 512) hx hb dX0_init_32 (by decide +kernel) ?_
  refine va_newa (atype := .int) (ty := .int) (N' := 512) (a0 := (512, .inl (fun _ => 0))) hx hb (hts (.arrayClass .int) (by decide +kernel)) rfl hK hP hD hS hA (tk_arI 512) (by decide +kernel) (by decide +kernel) (by decide +kernel) (by decide +kernel) (by decide +kernel) dX0_init_35 (fun q3 c3 Hp hK hP hD hS => ?_)
  have hP : va_P (dC, dI) vwCl [(o, .inr (0, [.ref q0, .ref q1, .ref q2, .null, .null, .null, .null, .null, .int 0])), (q0, .inl (c0, 512, .inl (fun _ => 0))), (q1, .inl (c1, 512, .inl (fun _ => 0))), (q2, .inl (c2, 512, .inl (fun _ => 0))), (q3, .inl (c3, 512, .inl (fun _ => 0)))] Hp := hP
  have hD : va_D A [(o, .inr (0, [.ref q0, .ref q1, .ref q2, .null, .null, .null, .null, .null, .int 0])), (q0, .inl (c0, 512, .inl (fun _ => 0))), (q1, .inl (c1, 512, .inl (fun _ => 0))), (q2, .inl (c2, 512, .inl (fun _ => 0))), (q3, .inl (c3, 512, .inl (fun _ => 0)))] := hD
  have hK : va_K (dC, dI) vwCl [(c0, .int), (c1, .int), (c2, .int), (c3, .int)] s := hK
  refine W.widen (k := 4) (n := 2048) (by omega) (by omega) ?_
  refine va_putF (D := (dC, dI)) (ci := 0) (v := .ref q3) (ty := .array .int) (C := RX0) (T := TX0) (N := 9) hx hb hts hin0 tyX0 tyX0_ok nmX0 hown hK hP hD hS 0 rfl rfl 3 (by decide) fl19 (fun _ h9 => h9) rfl hin rfl (by decide +kernel) rfl rfl (Nat.le_of_ble_eq_true rfl) dX0_init_37 (fun Hp locs hP hD hS => ?_)
  have hP : va_P (dC, dI) vwCl [(o, .inr (0, [.ref q0, .ref q1, .ref q2, .ref q3, .null, .null, .null, .null, .int 0])), (q0, .inl (c0, 512, .inl (fun _ => 0))), (q1, .inl (c1, 512, .inl (fun _ => 0))), (q2, .inl (c2, 512, .inl (fun _ => 0))), (q3, .inl (c3, 512, .inl (fun _ => 0)))] Hp := hP
  have hD : va_D A [(o, .inr (0, [.ref q0, .ref q1, .ref q2, .ref q3, .null, .null, .null, .null, .int 0])), (q0, .inl (c0, 512, .inl (fun _ => 0))), (q1, .inl (c1, 512, .inl (fun _ => 0))), (q2, .inl (c2, 512, .inl (fun _ => 0))), (q3, .inl (c3, 512, .inl (fun _ => 0)))] := hD
  refine lv_aload_n hx hb dX0_init_40 rfl (lv_at hl 0 rfl) ?_
  refine lv_sipush (v := nI 512) hx hb dX0_init_41 (by decide +kernel) ?_
  refine va_newa (atype := .int) (ty := .int) (N' := 512) (a0 := (512, .inl (fun _ => 0))) hx hb (hts (.arrayClass .int) (by decide +kernel)) rfl hK hP hD hS hA (tk_arI 512) (by decide +kernel) (by decide +kernel) (by decide +kernel) (by decide +kernel) (by decide +kernel) dX0_init_44 (fun q4 c4 Hp hK hP hD hS => ?_)
  have hP : va_P (dC, dI) vwCl [(o, .inr (0, [.ref q0, .ref q1, .ref q2, .ref q3, .null, .null, .null, .null, .int 0])), (q0, .inl (c0, 512, .inl (fun _ => 0))), (q1, .inl (c1, 512, .inl (fun _ => 0))), (q2, .inl (c2, 512, .inl (fun _ => 0))), (q3, .inl (c3, 512, .inl (fun _ => 0))), (q4, .inl (c4, 512, .inl (fun _ => 0)))] Hp := hP
  have hD : va_D A [(o, .inr (0, [.ref q0, .ref q1, .ref q2, .ref q3, .null, .null, .null, .null, .int 0])), (q0, .inl (c0, 512, .inl (fun _ => 0))), (q1, .inl (c1, 512, .inl (fun _ => 0))), (q2, .inl (c2, 512, .inl (fun _ => 0))), (q3, .inl (c3, 512, .inl (fun _ => 0))), (q4, .inl (c4, 512, .inl (fun _ => 0)))] := hD
  have hK : va_K (dC, dI) vwCl [(c0, .int), (c1, .int), (c2, .int), (c3, .int), (c4, .int)] s := hK
  refine W.widen (k := 5) (n := 2560) (by omega) (by omega) ?_
  refine va_putF (D := (dC, dI)) (ci := 0) (v := .ref q4) (ty := .array .int) (C := RX0) (T := TX0) (N := 9) hx hb hts hin0 tyX0 tyX0_ok nmX0 hown hK hP hD hS 0 rfl rfl 4 (by decide) fl22 (fun _ h9 => h9) rfl hin rfl (by decide +kernel) rfl rfl (Nat.le_of_ble_eq_true rfl) dX0_init_46 (fun Hp locs hP hD hS => ?_)
  have hP : va_P (dC, dI) vwCl [(o, .inr (0, [.ref q0, .ref q1, .ref q2, .ref q3, .ref q4, .null, .null, .null, .int 0])), (q0, .inl (c0, 512, .inl (fun _ => 0))), (q1, .inl (c1, 512, .inl (fun _ => 0))), (q2, .inl (c2, 512, .inl (fun _ => 0))), (q3, .inl (c3, 512, .inl (fun _ => 0))), (q4, .inl (c4, 512, .inl (fun _ => 0)))] Hp := hP
  have hD : va_D A [(o, .inr (0, [.ref q0, .ref q1, .ref q2, .ref q3, .ref q4, .null, .null, .null, .int 0])), (q0, .inl (c0, 512, .inl (fun _ => 0))), (q1, .inl (c1, 512, .inl (fun _ => 0))), (q2, .inl (c2, 512, .inl (fun _ => 0))), (q3, .inl (c3, 512, .inl (fun _ => 0))), (q4, .inl (c4, 512, .inl (fun _ => 0)))] := hD
  refine lv_aload_n hx hb dX0_init_49 rfl (lv_at hl 0 rfl) ?_
  refine lv_sipush (v := nI 512) hx hb dX0_init_50 (by decide +kernel) ?_
  refine va_newa (atype := .int) (ty := .int) (N' := 512) (a0 := (512, .inl (fun _ => 0))) hx hb (hts (.arrayClass .int) (by decide +kernel)) rfl hK hP hD hS hA (tk_arI 512) (by decide +kernel) (by decide +kernel) (by decide +kernel) (by decide +kernel) (by decide +kernel) dX0_init_53 (fun q5 c5 Hp hK hP hD hS => ?_)
  have hP : va_P (dC, dI) vwCl [(o, .inr (0, [.ref q0, .ref q1, .ref q2, .ref q3, .ref q4, .null, .null, .null, .int 0])), (q0, .inl (c0, 512, .inl (fun _ => 0))), (q1, .inl (c1, 512, .inl (fun _ => 0))), (q2, .inl (c2, 512, .inl (fun _ => 0))), (q3, .inl (c3, 512, .inl (fun _ => 0))), (q4, .inl (c4, 512, .inl (fun _ => 0))), (q5, .inl (c5, 512, .inl (fun _ => 0)))] Hp := hP
  have hD : va_D A [(o, .inr (0, [.ref q0, .ref q1, .ref q2, .ref q3, .ref q4, .null, .null, .null, .int 0])), (q0, .inl (c0, 512, .inl (fun _ => 0))), (q1, .inl (c1, 512, .inl (fun _ => 0))), (q2, .inl (c2, 512, .inl (fun _ => 0))), (q3, .inl (c3, 512, .inl (fun _ => 0))), (q4, .inl (c4, 512, .inl (fun _ => 0))), (q5, .inl (c5, 512, .inl (fun _ => 0)))] := hD
  have hK : va_K (dC, dI) vwCl [(c0, .int), (c1, .int), (c2, .int), (c3, .int), (c4, .int), (c5, .int)] s := hK
  refine W.widen (k := 6) (n := 3072) (by omega) (by omega) ?_
  refine va_putF (D := (dC, dI)) (ci := 0) (v := .ref q5) (ty := .array .int) (C := RX0) (T := TX0) (N := 9) hx hb hts hin0 tyX0 tyX0_ok nmX0 hown hK hP hD hS 0 rfl rfl 5 (by decide) fl25 (fun _ h9 => h9) rfl hin rfl (by decide +kernel) rfl rfl (Nat.le_of_ble_eq_true rfl) dX0_init_55 (fun Hp locs hP hD hS => ?_)
  have hP : va_P (dC, dI) vwCl [(o, .inr (0, [.ref q0, .ref q1, .ref q2, .ref q3, .ref q4, .ref q5, .null, .null, .int 0])), (q0, .inl (c0, 512, .inl (fun _ => 0))), (q1, .inl (c1, 512, .inl (fun _ => 0))), (q2, .inl (c2, 512, .inl (fun _ => 0))), (q3, .inl (c3, 512, .inl (fun _ => 0))), (q4, .inl (c4, 512, .inl (fun _ => 0))), (q5, .inl (c5, 512, .inl (fun _ => 0)))] Hp := hP
  have hD : va_D A [(o, .inr (0, [.ref q0, .ref q1, .ref q2, .ref q3, .ref q4, .ref q5, .null, .null, .int 0])), (q0, .inl (c0, 512, .inl (fun _ => 0))), (q1, .inl (c1, 512, .inl (fun _ => 0))), (q2, .inl (c2, 512, .inl (fun _ => 0))), (q3, .inl (c3, 512, .inl (fun _ => 0))), (q4, .inl (c4, 512, .inl (fun _ => 0))), (q5, .inl (c5, 512, .inl (fun _ => 0)))] := hD
  refine lv_aload_n hx hb dX0_init_58 rfl (lv_at hl 0 rfl) ?_
  refine lv_sipush (v := nI 512) hx hb dX0_init_59 (by decide +kernel) ?_
  refine va_newa (atype := .boolean) (ty := .boolean) (N' := 512) (a0 := (512, .inl (fun _ => 0))) hx hb (hts (.arrayClass .boolean) (by decide +kernel)) rfl hK hP hD hS hA (tk_arZ 512) (by decide +kernel) (by decide +kernel) (by decide +kernel) (by decide +kernel) (by decide +kernel) dX0_init_62 (fun q6 c6 Hp hK hP hD hS => ?_)
  have hP : va_P (dC, dI) vwCl [(o, .inr (0, [.ref q0, .ref q1, .ref q2, .ref q3, .ref q4, .ref q5, .null, .null, .int 0])), (q0, .inl (c0, 512, .inl (fun _ => 0))), (q1, .inl (c1, 512, .inl (fun _ => 0))), (q2, .inl (c2, 512, .inl (fun _ => 0))), (q3, .inl (c3, 512, .inl (fun _ => 0))), (q4, .inl (c4, 512, .inl (fun _ => 0))), (q5, .inl (c5, 512, .inl (fun _ => 0))), (q6, .inl (c6, 512, .inl (fun _ => 0)))] Hp := hP
  have hD : va_D A [(o, .inr (0, [.ref q0, .ref q1, .ref q2, .ref q3, .ref q4, .ref q5, .null, .null, .int 0])), (q0, .inl (c0, 512, .inl (fun _ => 0))), (q1, .inl (c1, 512, .inl (fun _ => 0))), (q2, .inl (c2, 512, .inl (fun _ => 0))), (q3, .inl (c3, 512, .inl (fun _ => 0))), (q4, .inl (c4, 512, .inl (fun _ => 0))), (q5, .inl (c5, 512, .inl (fun _ => 0))), (q6, .inl (c6, 512, .inl (fun _ => 0)))] := hD
  have hK : va_K (dC, dI) vwCl [(c0, .int), (c1, .int), (c2, .int), (c3, .int), (c4, .int), (c5, .int), (c6, .boolean)] s := hK
  refine W.widen (k := 7) (n := 3584) (by omega) (by omega) ?_
  refine va_putF (D := (dC, dI)) (ci := 0) (v := .ref q6) (ty := .array .boolean) (C := RX0) (T := TX0) (N := 9) hx hb hts hin0 tyX0 tyX0_ok nmX0 hown hK hP hD hS 0 rfl rfl 6 (by decide) fl28 (fun _ h9 => h9) rfl hin rfl (by decide +kernel) rfl rfl (Nat.le_of_ble_eq_true rfl) dX0_init_64 (fun Hp locs hP hD hS => ?_)
  have hP : va_P (dC, dI) vwCl [(o, .inr (0, [.ref q0, .ref q1, .ref q2, .ref q3, .ref q4, .ref q5, .ref q6, .null, .int 0])), (q0, .inl (c0, 512, .inl (fun _ => 0))), (q1, .inl (c1, 512, .inl (fun _ => 0))), (q2, .inl (c2, 512, .inl (fun _ => 0))), (q3, .inl (c3, 512, .inl (fun _ => 0))), (q4, .inl (c4, 512, .inl (fun _ => 0))), (q5, .inl (c5, 512, .inl (fun _ => 0))), (q6, .inl (c6, 512, .inl (fun _ => 0)))] Hp := hP
  have hD : va_D A [(o, .inr (0, [.ref q0, .ref q1, .ref q2, .ref q3, .ref q4, .ref q5, .ref q6, .null, .int 0])), (q0, .inl (c0, 512, .inl (fun _ => 0))), (q1, .inl (c1, 512, .inl (fun _ => 0))), (q2, .inl (c2, 512, .inl (fun _ => 0))), (q3, .inl (c3, 512, .inl (fun _ => 0))), (q4, .inl (c4, 512, .inl (fun _ => 0))), (q5, .inl (c5, 512, .inl (fun _ => 0))), (q6, .inl (c6, 512, .inl (fun _ => 0)))] := hD
  refine lv_aload_n hx hb dX0_init_67 rfl (lv_at hl 0 rfl) ?_
  refine lv_bipush (v := nI 7) hx hb dX0_init_68 (by decide +kernel) ?_
  refine va_newa (atype := .int) (ty := .int) (N' := 7) (a0 := (7, .inl (fun _ => 0))) hx hb (hts (.arrayClass .int) (by decide +kernel)) rfl hK hP hD hS hA (tk_arI 7) (by decide +kernel) (by decide +kernel) (by decide +kernel) (by decide +kernel) (by decide +kernel) dX0_init_70 (fun q7 c7 Hp hK hP hD hS => ?_)
  have hP : va_P (dC, dI) vwCl [(o, .inr (0, [.ref q0, .ref q1, .ref q2, .ref q3, .ref q4, .ref q5, .ref q6, .null, .int 0])), (q0, .inl (c0, 512, .inl (fun _ => 0))), (q1, .inl (c1, 512, .inl (fun _ => 0))), (q2, .inl (c2, 512, .inl (fun _ => 0))), (q3, .inl (c3, 512, .inl (fun _ => 0))), (q4, .inl (c4, 512, .inl (fun _ => 0))), (q5, .inl (c5, 512, .inl (fun _ => 0))), (q6, .inl (c6, 512, .inl (fun _ => 0))), (q7, .inl (c7, 7, .inl (fun _ => 0)))] Hp := hP
  have hD : va_D A [(o, .inr (0, [.ref q0, .ref q1, .ref q2, .ref q3, .ref q4, .ref q5, .ref q6, .null, .int 0])), (q0, .inl (c0, 512, .inl (fun _ => 0))), (q1, .inl (c1, 512, .inl (fun _ => 0))), (q2, .inl (c2, 512, .inl (fun _ => 0))), (q3, .inl (c3, 512, .inl (fun _ => 0))), (q4, .inl (c4, 512, .inl (fun _ => 0))), (q5, .inl (c5, 512, .inl (fun _ => 0))), (q6, .inl (c6, 512, .inl (fun _ => 0))), (q7, .inl (c7, 7, .inl (fun _ => 0)))] := hD
  have hK : va_K (dC, dI) vwCl [(c0, .int), (c1, .int), (c2, .int), (c3, .int), (c4, .int), (c5, .int), (c6, .boolean), (c7, .int)] s := hK
  refine W.widen (k := 8) (n := 3591) (by omega) (by omega) ?_
  refine va_putF (D := (dC, dI)) (ci := 0) (v := .ref q7) (ty := .array .int) (C := RX0) (T := TX0) (N := 9) hx hb hts hin0 tyX0 tyX0_ok nmX0 hown hK hP hD hS 0 rfl rfl 7 (by decide) fl32 (fun _ h9 => h9) rfl hin rfl (by decide +kernel) rfl rfl (Nat.le_of_ble_eq_true rfl) dX0_init_72 (fun Hp locs hP hD hS => ?_)
  have hP : va_P (dC, dI) vwCl [(o, .inr (0, [.ref q0, .ref q1, .ref q2, .ref q3, .ref q4, .ref q5, .ref q6, .ref q7, .int 0])), (q0, .inl (c0, 512, .inl (fun _ => 0))), (q1, .inl (c1, 512, .inl (fun _ => 0))), (q2, .inl (c2, 512, .inl (fun _ => 0))), (q3, .inl (c3, 512, .inl (fun _ => 0))), (q4, .inl (c4, 512, .inl (fun _ => 0))), (q5, .inl (c5, 512, .inl (fun _ => 0))), (q6, .inl (c6, 512, .inl (fun _ => 0))), (q7, .inl (c7, 7, .inl (fun _ => 0)))] Hp := hP
  have hD : va_D A [(o, .inr (0, [.ref q0, .ref q1, .ref q2, .ref q3, .ref q4, .ref q5, .ref q6, .ref q7, .int 0])), (q0, .inl (c0, 512, .inl (fun _ => 0))), (q1, .inl (c1, 512, .inl (fun _ => 0))), (q2, .inl (c2, 512, .inl (fun _ => 0))), (q3, .inl (c3, 512, .inl (fun _ => 0))), (q4, .inl (c4, 512, .inl (fun _ => 0))), (q5, .inl (c5, 512, .inl (fun _ => 0))), (q6, .inl (c6, 512, .inl (fun _ => 0))), (q7, .inl (c7, 7, .inl (fun _ => 0)))] := hD
  refine lv_aload_n hx hb dX0_init_75 rfl (lv_at hl 0 rfl) ?_
  refine va_get (D := (dC, dI)) (ci := 0) (v := .ref q0) (C := RX0) (T := TX0) (N := 9) hx hb hts hin0 hown hK hP 0 rfl rfl 0 (by decide) fl9 (fun _ h9 => h9) rfl dX0_init_76 ?_
  refine lv_iconst (v := nI 0) hx hb dX0_init_79 (by decide +kernel) ?_
  refine lv_bipush (v := -2) hx hb dX0_init_80 (by decide +kernel) ?_
  refine tk_sti hx hb hK hP hD hS 1 0 rfl rfl 0 (by decide) (by decide) dX0_init_82 (fun Hp locs hP hD hS => ?_)
  have hP : va_P (dC, dI) vwCl [(o, .inr (0, [.ref q0, .ref q1, .ref q2, .ref q3, .ref q4, .ref q5, .ref q6, .ref q7, .int 0])), (q0, .inl (c0, 512, .inl (upd (fun _ => 0) 0 (-2)))), (q1, .inl (c1, 512, .inl (fun _ => 0))), (q2, .inl (c2, 512, .inl (fun _ => 0))), (q3, .inl (c3, 512, .inl (fun _ => 0))), (q4, .inl (c4, 512, .inl (fun _ => 0))), (q5, .inl (c5, 512, .inl (fun _ => 0))), (q6, .inl (c6, 512, .inl (fun _ => 0))), (q7, .inl (c7, 7, .inl (fun _ => 0)))] Hp := hP
  have hD : va_D A [(o, .inr (0, [.ref q0, .ref q1, .ref q2, .ref q3, .ref q4, .ref q5, .ref q6, .ref q7, .int 0])), (q0, .inl (c0, 512, .inl (upd (fun _ => 0) 0 (-2)))), (q1, .inl (c1, 512, .inl (fun _ => 0))), (q2, .inl (c2, 512, .inl (fun _ => 0))), (q3, .inl (c3, 512, .inl (fun _ => 0))), (q4, .inl (c4, 512, .inl (fun _ => 0))), (q5, .inl (c5, 512, .inl (fun _ => 0))), (q6, .inl (c6, 512, .inl (fun _ => 0))), (q7, .inl (c7, 7, .inl (fun _ => 0)))] := hD
  refine lv_aload_n hx hb dX0_init_83 rfl (lv_at hl 0 rfl) ?_
  refine va_get (D := (dC, dI)) (ci := 0) (v := .ref q4) (C := RX0) (T := TX0) (N := 9) hx hb hts hin0 hown hK hP 0 rfl rfl 4 (by decide) fl22 (fun _ h9 => h9) rfl dX0_init_84 ?_
  refine lv_iconst (v := nI 0) hx hb dX0_init_87 (by decide +kernel) ?_
  refine lv_ldc (v := 32768) hx hb hown kc35 dX0_init_88 ?_
  refine tk_top (y := nI 32768) (by decide +kernel) ?_
  refine tk_sti hx hb hK hP hD hS 5 4 rfl rfl 0 (by decide) (by decide) dX0_init_90 (fun Hp locs hP hD hS => ?_)
  have hP : va_P (dC, dI) vwCl [(o, .inr (0, [.ref q0, .ref q1, .ref q2, .ref q3, .ref q4, .ref q5, .ref q6, .ref q7, .int 0])), (q0, .inl (c0, 512, .inl (upd (fun _ => 0) 0 (-2)))), (q1, .inl (c1, 512, .inl (fun _ => 0))), (q2, .inl (c2, 512, .inl (fun _ => 0))), (q3, .inl (c3, 512, .inl (fun _ => 0))), (q4, .inl (c4, 512, .inl (upd (fun _ => 0) 0 (nI 32768)))), (q5, .inl (c5, 512, .inl (fun _ => 0))), (q6, .inl (c6, 512, .inl (fun _ => 0))), (q7, .inl (c7, 7, .inl (fun _ => 0)))] Hp := hP
  have hD : va_D A [(o, .inr (0, [.ref q0, .ref q1, .ref q2, .ref q3, .ref q4, .ref q5, .ref q6, .ref q7, .int 0])), (q0, .inl (c0, 512, .inl (upd (fun _ => 0) 0 (-2)))), (q1, .inl (c1, 512, .inl (fun _ => 0))), (q2, .inl (c2, 512, .inl (fun _ => 0))), (q3, .inl (c3, 512, .inl (fun _ => 0))), (q4, .inl (c4, 512, .inl (upd (fun _ => 0) 0 (nI 32768)))), (q5, .inl (c5, 512, .inl (fun _ => 0))), (q6, .inl (c6, 512, .inl (fun _ => 0))), (q7, .inl (c7, 7, .inl (fun _ => 0)))] := hD
  refine lv_aload_n hx hb dX0_init_91 rfl (lv_at hl 0 rfl) ?_
  refine lv_iconst (v := nI 1) hx hb dX0_init_92 (by decide +kernel) ?_
  refine va_put (D := (dC, dI)) (ci := 0) (v := .int (nI 1)) (ty := .int) (C := RX0) (T := TX0) (N := 9) hx hb hts hin0 tyX0 tyX0_ok nmX0 hown hK hP hD hS 0 rfl rfl 8 (by decide) fl36 (fun _ h9 => h9) rfl (by decide +kernel) rfl rfl (Nat.le_of_ble_eq_true rfl) dX0_init_93 (fun Hp locs hP hD hS => ?_)
  have hP : va_P (dC, dI) vwCl [(o, .inr (0, [.ref q0, .ref q1, .ref q2, .ref q3, .ref q4, .ref q5, .ref q6, .ref q7, .int (nI 1)])), (q0, .inl (c0, 512, .inl (upd (fun _ => 0) 0 (-2)))), (q1, .inl (c1, 512, .inl (fun _ => 0))), (q2, .inl (c2, 512, .inl (fun _ => 0))), (q3, .inl (c3, 512, .inl (fun _ => 0))), (q4, .inl (c4, 512, .inl (upd (fun _ => 0) 0 (nI 32768)))), (q5, .inl (c5, 512, .inl (fun _ => 0))), (q6, .inl (c6, 512, .inl (fun _ => 0))), (q7, .inl (c7, 7, .inl (fun _ => 0)))] Hp := hP
  have hD : va_D A [(o, .inr (0, [.ref q0, .ref q1, .ref q2, .ref q3, .ref q4, .ref q5, .ref q6, .ref q7, .int (nI 1)])), (q0, .inl (c0, 512, .inl (upd (fun _ => 0) 0 (-2)))), (q1, .inl (c1, 512, .inl (fun _ => 0))), (q2, .inl (c2, 512, .inl (fun _ => 0))), (q3, .inl (c3, 512, .inl (fun _ => 0))), (q4, .inl (c4, 512, .inl (upd (fun _ => 0) 0 (nI 32768)))), (q5, .inl (c5, 512, .inl (fun _ => 0))), (q6, .inl (c6, 512, .inl (fun _ => 0))), (q7, .inl (c7, 7, .inl (fun _ => 0)))] := hD
  exact W.vret hx hb hr (fun t ht hW => ⟨⟨(tk_pk q0 q1 q2 q3 q4 q5 q6 q7, tk_pk c0 c1 c2 c3 c4 c5 c6 c7), rfl, trivial, by rw [ht]; exact hP, va_K.moved hW.alike hK, hD⟩, hS.F ht⟩) hS.2.2 dX0_init_96
set_option maxHeartbeats 4000000 in
set_option maxRecDepth 100000 in
theorem c1_init (l : Launch) (dC : Nat → ClassId) (dI : Nat → Nat → Nat) (o sz : Nat) : Met l yX1_init wsX1_init ({ frames := 1, cells := 8, slots := 3591, locals := 12 }) (tk_Wp (dC, dI) [(o, .inr (1, [.null, .null, .null, .null, .null, .null, .null, .null, .int 0]))] [] sz [.ref o]) (va_Qv (fun _ : (Nat → Nat) × (Nat → ClassId) => True) (fun u t => tk_E (dC, dI) (tk_t1 u.2) (va_A [(o, .inr (1, [.null, .null, .null, .null, .null, .null, .null, .null, .int 0]))] sz) (tk_w1 o u.1 u.2 tk_P0 tk_0 tk_0 tk_G0 (fun _ => 0) tk_0 tk_0 tk_0 1) t) (va_A [(o, .inr (1, [.null, .null, .null, .null, .null, .null, .null, .null, .int 0]))] sz)) 8 3591 (va_A [(o, .inr (1, [.null, .null, .null, .null, .null, .null, .null, .null, .int 0]))] sz) := by
  refine Met.ofW (cc := cX1_init) (maxL := 1) (ret := none) (by decide) rfl ?_
  intro p e s m args below meth c s₁ B hml hv
  obtain ⟨rfl, hsz, hP, hK, hD0⟩ := hv
  have hx := B.exec
  have hb := B.bytes
  have hr := B.returns
  have hts := atoms_spec (ws := wsX1_init) B.pre
  have hown : s.vm.findClass RX1 = some m.cls := findClass_of_methodNamed B.named
  have hlocks := B.notSynchronized
  have hin : meth.name = "<init>" := (name_of_methodNamed B.named B.method).1
  have hin0 : ∀ w ∈ u_ws RX1 TX1 9, w ∈ wsX1_init := by decide +kernel
  have fl9 := hts (.fieldLink RX1 9 "WorkTreeModel" "parent" "[I") (by decide +kernel)
  have fl13 := hts (.fieldLink RX1 13 "WorkTreeModel" "height" "[I") (by decide +kernel)
  have fl16 := hts (.fieldLink RX1 16 "WorkTreeModel" "time" "[I") (by decide +kernel)
  have fl19 := hts (.fieldLink RX1 19 "WorkTreeModel" "target" "[I") (by decide +kernel)
  have fl22 := hts (.fieldLink RX1 22 "WorkTreeModel" "work" "[J") (by decide +kernel)
  have fl26 := hts (.fieldLink RX1 26 "WorkTreeModel" "arrival" "[I") (by decide +kernel)
  have fl29 := hts (.fieldLink RX1 29 "WorkTreeModel" "refused" "[Z") (by decide +kernel)
  have fl33 := hts (.fieldLink RX1 33 "WorkTreeModel" "times" "[I") (by decide +kernel)
  have fl36 := hts (.fieldLink RX1 36 "WorkTreeModel" "count" "I") (by decide +kernel)
  have kc40 := hts (.constant RX1 40 (32768)) (by decide +kernel)
  subst hsz
  have hD := hD0.self (sz := s.heap.size)
  generalize hAe : va_A [(o, .inr (1, [.null, .null, .null, .null, .null, .null, .null, .null, .int 0]))] s.heap.size = A at hD ⊢
  have hA : ∀ q : Nat, s.heap.size ≤ q → A q := fun q h => by rw [← hAe]; exact Or.inr h
  have hS : va_S A s.heap s.heap [] := va_S.rf
  have hl := lv_entry ([.ref o]) (n := 1) (Nat.le_of_ble_eq_true rfl)
  rw [lg_entry_eq]
  generalize (lg_sl ([.ref o]) ++ List.replicate (1 - (lg_sl ([.ref o])).length) Slot.unset).toArray = ls at hl ⊢
  have hl : lv_has ls 1 [(0, .ref o)] := hl
  refine lv_aload_n hx hb dX1_init_0 rfl (lv_at hl 0 rfl) ?_
  refine W.objInit hx hb hown (hts (.methodLink RX1 1 objectInit) (by decide +kernel)) (hts (.instanceMethod objectInit) (by decide +kernel)) (hts (.code objectInit ⟨#[0xb1]⟩ 1 none) (by decide +kernel)) rfl (by rw [hml]; exact hl.1) rfl dX1_init_1 (Nat.le_of_ble_eq_true rfl) (Nat.le_of_ble_eq_true rfl) ?_
  refine W.eq (g2 := F0 m 4 ls []) rfl ?_
  refine lv_aload_n hx hb dX1_init_4 rfl (lv_at hl 0 rfl) ?_
  refine lv_sipush (v := nI 512) hx hb dX1_init_5 (by decide +kernel) ?_
  refine va_newa (atype := .int) (ty := .int) (N' := 512) (a0 := (512, .inl (fun _ => 0))) hx hb (hts (.arrayClass .int) (by decide +kernel)) rfl hK hP hD hS hA (tk_arI 512) (by decide +kernel) (by decide +kernel) (by decide +kernel) (by decide +kernel) (by decide +kernel) dX1_init_8 (fun q0 c0 Hp hK hP hD hS => ?_)
  have hP : va_P (dC, dI) vwCl [(o, .inr (1, [.null, .null, .null, .null, .null, .null, .null, .null, .int 0])), (q0, .inl (c0, 512, .inl (fun _ => 0)))] Hp := hP
  have hD : va_D A [(o, .inr (1, [.null, .null, .null, .null, .null, .null, .null, .null, .int 0])), (q0, .inl (c0, 512, .inl (fun _ => 0)))] := hD
  have hK : va_K (dC, dI) vwCl [(c0, .int)] s := hK
  refine W.widen (k := 1) (n := 512) (by omega) (by omega) ?_
  refine va_putF (D := (dC, dI)) (ci := 1) (v := .ref q0) (ty := .array .int) (C := RX1) (T := TX1) (N := 9) hx hb hts hin0 tyX1 tyX1_ok nmX1 hown hK hP hD hS 0 rfl rfl 0 (by decide) fl9 (fun _ h9 => h9) rfl hin rfl (by decide +kernel) rfl rfl (Nat.le_of_ble_eq_true rfl) dX1_init_10 (fun Hp locs hP hD hS => ?_)
  have hP : va_P (dC, dI) vwCl [(o, .inr (1, [.ref q0, .null, .null, .null, .null, .null, .null, .null, .int 0])), (q0, .inl (c0, 512, .inl (fun _ => 0)))] Hp := hP
  have hD : va_D A [(o, .inr (1, [.ref q0, .null, .null, .null, .null, .null, .null, .null, .int 0])), (q0, .inl (c0, 512, .inl (fun _ => 0)))] := hD
  refine lv_aload_n hx hb dX1_init_13 rfl (lv_at hl 0 rfl) ?_
  refine lv_sipush (v := nI 512) hx hb dX1_init_14 (by decide +kernel) ?_
  refine va_newa (atype := .int) (ty := .int) (N' := 512) (a0 := (512, .inl (fun _ => 0))) hx hb (hts (.arrayClass .int) (by decide +kernel)) rfl hK hP hD hS hA (tk_arI 512) (by decide +kernel) (by decide +kernel) (by decide +kernel) (by decide +kernel) (by decide +kernel) dX1_init_17 (fun q1 c1 Hp hK hP hD hS => ?_)
  have hP : va_P (dC, dI) vwCl [(o, .inr (1, [.ref q0, .null, .null, .null, .null, .null, .null, .null, .int 0])), (q0, .inl (c0, 512, .inl (fun _ => 0))), (q1, .inl (c1, 512, .inl (fun _ => 0)))] Hp := hP
  have hD : va_D A [(o, .inr (1, [.ref q0, .null, .null, .null, .null, .null, .null, .null, .int 0])), (q0, .inl (c0, 512, .inl (fun _ => 0))), (q1, .inl (c1, 512, .inl (fun _ => 0)))] := hD
  have hK : va_K (dC, dI) vwCl [(c0, .int), (c1, .int)] s := hK
  refine W.widen (k := 2) (n := 1024) (by omega) (by omega) ?_
  refine va_putF (D := (dC, dI)) (ci := 1) (v := .ref q1) (ty := .array .int) (C := RX1) (T := TX1) (N := 9) hx hb hts hin0 tyX1 tyX1_ok nmX1 hown hK hP hD hS 0 rfl rfl 1 (by decide) fl13 (fun _ h9 => h9) rfl hin rfl (by decide +kernel) rfl rfl (Nat.le_of_ble_eq_true rfl) dX1_init_19 (fun Hp locs hP hD hS => ?_)
  have hP : va_P (dC, dI) vwCl [(o, .inr (1, [.ref q0, .ref q1, .null, .null, .null, .null, .null, .null, .int 0])), (q0, .inl (c0, 512, .inl (fun _ => 0))), (q1, .inl (c1, 512, .inl (fun _ => 0)))] Hp := hP
  have hD : va_D A [(o, .inr (1, [.ref q0, .ref q1, .null, .null, .null, .null, .null, .null, .int 0])), (q0, .inl (c0, 512, .inl (fun _ => 0))), (q1, .inl (c1, 512, .inl (fun _ => 0)))] := hD
  refine lv_aload_n hx hb dX1_init_22 rfl (lv_at hl 0 rfl) ?_
  refine lv_sipush (v := nI 512) hx hb dX1_init_23 (by decide +kernel) ?_
  refine va_newa (atype := .int) (ty := .int) (N' := 512) (a0 := (512, .inl (fun _ => 0))) hx hb (hts (.arrayClass .int) (by decide +kernel)) rfl hK hP hD hS hA (tk_arI 512) (by decide +kernel) (by decide +kernel) (by decide +kernel) (by decide +kernel) (by decide +kernel) dX1_init_26 (fun q2 c2 Hp hK hP hD hS => ?_)
  have hP : va_P (dC, dI) vwCl [(o, .inr (1, [.ref q0, .ref q1, .null, .null, .null, .null, .null, .null, .int 0])), (q0, .inl (c0, 512, .inl (fun _ => 0))), (q1, .inl (c1, 512, .inl (fun _ => 0))), (q2, .inl (c2, 512, .inl (fun _ => 0)))] Hp := hP
  have hD : va_D A [(o, .inr (1, [.ref q0, .ref q1, .null, .null, .null, .null, .null, .null, .int 0])), (q0, .inl (c0, 512, .inl (fun _ => 0))), (q1, .inl (c1, 512, .inl (fun _ => 0))), (q2, .inl (c2, 512, .inl (fun _ => 0)))] := hD
  have hK : va_K (dC, dI) vwCl [(c0, .int), (c1, .int), (c2, .int)] s := hK
  refine W.widen (k := 3) (n := 1536) (by omega) (by omega) ?_
  refine va_putF (D := (dC, dI)) (ci := 1) (v := .ref q2) (ty := .array .int) (C := RX1) (T := TX1) (N := 9) hx hb hts hin0 tyX1 tyX1_ok nmX1 hown hK hP hD hS 0 rfl rfl 2 (by decide) fl16 (fun _ h9 => h9) rfl hin rfl (by decide +kernel) rfl rfl (Nat.le_of_ble_eq_true rfl) dX1_init_28 (fun Hp locs hP hD hS => ?_)
  have hP : va_P (dC, dI) vwCl [(o, .inr (1, [.ref q0, .ref q1, .ref q2, .null, .null, .null, .null, .null, .int 0])), (q0, .inl (c0, 512, .inl (fun _ => 0))), (q1, .inl (c1, 512, .inl (fun _ => 0))), (q2, .inl (c2, 512, .inl (fun _ => 0)))] Hp := hP
  have hD : va_D A [(o, .inr (1, [.ref q0, .ref q1, .ref q2, .null, .null, .null, .null, .null, .int 0])), (q0, .inl (c0, 512, .inl (fun _ => 0))), (q1, .inl (c1, 512, .inl (fun _ => 0))), (q2, .inl (c2, 512, .inl (fun _ => 0)))] := hD
  refine lv_aload_n hx hb dX1_init_31 rfl (lv_at hl 0 rfl) ?_
  refine lv_sipush (v := nI 512) hx hb dX1_init_32 (by decide +kernel) ?_
  refine va_newa (atype := .int) (ty := .int) (N' := 512) (a0 := (512, .inl (fun _ => 0))) hx hb (hts (.arrayClass .int) (by decide +kernel)) rfl hK hP hD hS hA (tk_arI 512) (by decide +kernel) (by decide +kernel) (by decide +kernel) (by decide +kernel) (by decide +kernel) dX1_init_35 (fun q3 c3 Hp hK hP hD hS => ?_)
  have hP : va_P (dC, dI) vwCl [(o, .inr (1, [.ref q0, .ref q1, .ref q2, .null, .null, .null, .null, .null, .int 0])), (q0, .inl (c0, 512, .inl (fun _ => 0))), (q1, .inl (c1, 512, .inl (fun _ => 0))), (q2, .inl (c2, 512, .inl (fun _ => 0))), (q3, .inl (c3, 512, .inl (fun _ => 0)))] Hp := hP
  have hD : va_D A [(o, .inr (1, [.ref q0, .ref q1, .ref q2, .null, .null, .null, .null, .null, .int 0])), (q0, .inl (c0, 512, .inl (fun _ => 0))), (q1, .inl (c1, 512, .inl (fun _ => 0))), (q2, .inl (c2, 512, .inl (fun _ => 0))), (q3, .inl (c3, 512, .inl (fun _ => 0)))] := hD
  have hK : va_K (dC, dI) vwCl [(c0, .int), (c1, .int), (c2, .int), (c3, .int)] s := hK
  refine W.widen (k := 4) (n := 2048) (by omega) (by omega) ?_
  refine va_putF (D := (dC, dI)) (ci := 1) (v := .ref q3) (ty := .array .int) (C := RX1) (T := TX1) (N := 9) hx hb hts hin0 tyX1 tyX1_ok nmX1 hown hK hP hD hS 0 rfl rfl 3 (by decide) fl19 (fun _ h9 => h9) rfl hin rfl (by decide +kernel) rfl rfl (Nat.le_of_ble_eq_true rfl) dX1_init_37 (fun Hp locs hP hD hS => ?_)
  have hP : va_P (dC, dI) vwCl [(o, .inr (1, [.ref q0, .ref q1, .ref q2, .ref q3, .null, .null, .null, .null, .int 0])), (q0, .inl (c0, 512, .inl (fun _ => 0))), (q1, .inl (c1, 512, .inl (fun _ => 0))), (q2, .inl (c2, 512, .inl (fun _ => 0))), (q3, .inl (c3, 512, .inl (fun _ => 0)))] Hp := hP
  have hD : va_D A [(o, .inr (1, [.ref q0, .ref q1, .ref q2, .ref q3, .null, .null, .null, .null, .int 0])), (q0, .inl (c0, 512, .inl (fun _ => 0))), (q1, .inl (c1, 512, .inl (fun _ => 0))), (q2, .inl (c2, 512, .inl (fun _ => 0))), (q3, .inl (c3, 512, .inl (fun _ => 0)))] := hD
  refine lv_aload_n hx hb dX1_init_40 rfl (lv_at hl 0 rfl) ?_
  refine lv_sipush (v := nI 512) hx hb dX1_init_41 (by decide +kernel) ?_
  refine va_newa (atype := .long) (ty := .long) (N' := 512) (a0 := (512, .inr (.inl (fun _ => 0)))) hx hb (hts (.arrayClass .long) (by decide +kernel)) rfl hK hP hD hS hA (tk_arL 512) (by decide +kernel) (by decide +kernel) (by decide +kernel) (by decide +kernel) (by decide +kernel) dX1_init_44 (fun q4 c4 Hp hK hP hD hS => ?_)
  have hP : va_P (dC, dI) vwCl [(o, .inr (1, [.ref q0, .ref q1, .ref q2, .ref q3, .null, .null, .null, .null, .int 0])), (q0, .inl (c0, 512, .inl (fun _ => 0))), (q1, .inl (c1, 512, .inl (fun _ => 0))), (q2, .inl (c2, 512, .inl (fun _ => 0))), (q3, .inl (c3, 512, .inl (fun _ => 0))), (q4, .inl (c4, 512, .inr (.inl (fun _ => 0))))] Hp := hP
  have hD : va_D A [(o, .inr (1, [.ref q0, .ref q1, .ref q2, .ref q3, .null, .null, .null, .null, .int 0])), (q0, .inl (c0, 512, .inl (fun _ => 0))), (q1, .inl (c1, 512, .inl (fun _ => 0))), (q2, .inl (c2, 512, .inl (fun _ => 0))), (q3, .inl (c3, 512, .inl (fun _ => 0))), (q4, .inl (c4, 512, .inr (.inl (fun _ => 0))))] := hD
  have hK : va_K (dC, dI) vwCl [(c0, .int), (c1, .int), (c2, .int), (c3, .int), (c4, .long)] s := hK
  refine W.widen (k := 5) (n := 2560) (by omega) (by omega) ?_
  refine va_putF (D := (dC, dI)) (ci := 1) (v := .ref q4) (ty := .array .long) (C := RX1) (T := TX1) (N := 9) hx hb hts hin0 tyX1 tyX1_ok nmX1 hown hK hP hD hS 0 rfl rfl 4 (by decide) fl22 (fun _ h9 => h9) rfl hin rfl (by decide +kernel) rfl rfl (Nat.le_of_ble_eq_true rfl) dX1_init_46 (fun Hp locs hP hD hS => ?_)
  have hP : va_P (dC, dI) vwCl [(o, .inr (1, [.ref q0, .ref q1, .ref q2, .ref q3, .ref q4, .null, .null, .null, .int 0])), (q0, .inl (c0, 512, .inl (fun _ => 0))), (q1, .inl (c1, 512, .inl (fun _ => 0))), (q2, .inl (c2, 512, .inl (fun _ => 0))), (q3, .inl (c3, 512, .inl (fun _ => 0))), (q4, .inl (c4, 512, .inr (.inl (fun _ => 0))))] Hp := hP
  have hD : va_D A [(o, .inr (1, [.ref q0, .ref q1, .ref q2, .ref q3, .ref q4, .null, .null, .null, .int 0])), (q0, .inl (c0, 512, .inl (fun _ => 0))), (q1, .inl (c1, 512, .inl (fun _ => 0))), (q2, .inl (c2, 512, .inl (fun _ => 0))), (q3, .inl (c3, 512, .inl (fun _ => 0))), (q4, .inl (c4, 512, .inr (.inl (fun _ => 0))))] := hD
  refine lv_aload_n hx hb dX1_init_49 rfl (lv_at hl 0 rfl) ?_
  refine lv_sipush (v := nI 512) hx hb dX1_init_50 (by decide +kernel) ?_
  refine va_newa (atype := .int) (ty := .int) (N' := 512) (a0 := (512, .inl (fun _ => 0))) hx hb (hts (.arrayClass .int) (by decide +kernel)) rfl hK hP hD hS hA (tk_arI 512) (by decide +kernel) (by decide +kernel) (by decide +kernel) (by decide +kernel) (by decide +kernel) dX1_init_53 (fun q5 c5 Hp hK hP hD hS => ?_)
  have hP : va_P (dC, dI) vwCl [(o, .inr (1, [.ref q0, .ref q1, .ref q2, .ref q3, .ref q4, .null, .null, .null, .int 0])), (q0, .inl (c0, 512, .inl (fun _ => 0))), (q1, .inl (c1, 512, .inl (fun _ => 0))), (q2, .inl (c2, 512, .inl (fun _ => 0))), (q3, .inl (c3, 512, .inl (fun _ => 0))), (q4, .inl (c4, 512, .inr (.inl (fun _ => 0)))), (q5, .inl (c5, 512, .inl (fun _ => 0)))] Hp := hP
  have hD : va_D A [(o, .inr (1, [.ref q0, .ref q1, .ref q2, .ref q3, .ref q4, .null, .null, .null, .int 0])), (q0, .inl (c0, 512, .inl (fun _ => 0))), (q1, .inl (c1, 512, .inl (fun _ => 0))), (q2, .inl (c2, 512, .inl (fun _ => 0))), (q3, .inl (c3, 512, .inl (fun _ => 0))), (q4, .inl (c4, 512, .inr (.inl (fun _ => 0)))), (q5, .inl (c5, 512, .inl (fun _ => 0)))] := hD
  have hK : va_K (dC, dI) vwCl [(c0, .int), (c1, .int), (c2, .int), (c3, .int), (c4, .long), (c5, .int)] s := hK
  refine W.widen (k := 6) (n := 3072) (by omega) (by omega) ?_
  refine va_putF (D := (dC, dI)) (ci := 1) (v := .ref q5) (ty := .array .int) (C := RX1) (T := TX1) (N := 9) hx hb hts hin0 tyX1 tyX1_ok nmX1 hown hK hP hD hS 0 rfl rfl 5 (by decide) fl26 (fun _ h9 => h9) rfl hin rfl (by decide +kernel) rfl rfl (Nat.le_of_ble_eq_true rfl) dX1_init_55 (fun Hp locs hP hD hS => ?_)
  have hP : va_P (dC, dI) vwCl [(o, .inr (1, [.ref q0, .ref q1, .ref q2, .ref q3, .ref q4, .ref q5, .null, .null, .int 0])), (q0, .inl (c0, 512, .inl (fun _ => 0))), (q1, .inl (c1, 512, .inl (fun _ => 0))), (q2, .inl (c2, 512, .inl (fun _ => 0))), (q3, .inl (c3, 512, .inl (fun _ => 0))), (q4, .inl (c4, 512, .inr (.inl (fun _ => 0)))), (q5, .inl (c5, 512, .inl (fun _ => 0)))] Hp := hP
  have hD : va_D A [(o, .inr (1, [.ref q0, .ref q1, .ref q2, .ref q3, .ref q4, .ref q5, .null, .null, .int 0])), (q0, .inl (c0, 512, .inl (fun _ => 0))), (q1, .inl (c1, 512, .inl (fun _ => 0))), (q2, .inl (c2, 512, .inl (fun _ => 0))), (q3, .inl (c3, 512, .inl (fun _ => 0))), (q4, .inl (c4, 512, .inr (.inl (fun _ => 0)))), (q5, .inl (c5, 512, .inl (fun _ => 0)))] := hD
  refine lv_aload_n hx hb dX1_init_58 rfl (lv_at hl 0 rfl) ?_
  refine lv_sipush (v := nI 512) hx hb dX1_init_59 (by decide +kernel) ?_
  refine va_newa (atype := .boolean) (ty := .boolean) (N' := 512) (a0 := (512, .inl (fun _ => 0))) hx hb (hts (.arrayClass .boolean) (by decide +kernel)) rfl hK hP hD hS hA (tk_arZ 512) (by decide +kernel) (by decide +kernel) (by decide +kernel) (by decide +kernel) (by decide +kernel) dX1_init_62 (fun q6 c6 Hp hK hP hD hS => ?_)
  have hP : va_P (dC, dI) vwCl [(o, .inr (1, [.ref q0, .ref q1, .ref q2, .ref q3, .ref q4, .ref q5, .null, .null, .int 0])), (q0, .inl (c0, 512, .inl (fun _ => 0))), (q1, .inl (c1, 512, .inl (fun _ => 0))), (q2, .inl (c2, 512, .inl (fun _ => 0))), (q3, .inl (c3, 512, .inl (fun _ => 0))), (q4, .inl (c4, 512, .inr (.inl (fun _ => 0)))), (q5, .inl (c5, 512, .inl (fun _ => 0))), (q6, .inl (c6, 512, .inl (fun _ => 0)))] Hp := hP
  have hD : va_D A [(o, .inr (1, [.ref q0, .ref q1, .ref q2, .ref q3, .ref q4, .ref q5, .null, .null, .int 0])), (q0, .inl (c0, 512, .inl (fun _ => 0))), (q1, .inl (c1, 512, .inl (fun _ => 0))), (q2, .inl (c2, 512, .inl (fun _ => 0))), (q3, .inl (c3, 512, .inl (fun _ => 0))), (q4, .inl (c4, 512, .inr (.inl (fun _ => 0)))), (q5, .inl (c5, 512, .inl (fun _ => 0))), (q6, .inl (c6, 512, .inl (fun _ => 0)))] := hD
  have hK : va_K (dC, dI) vwCl [(c0, .int), (c1, .int), (c2, .int), (c3, .int), (c4, .long), (c5, .int), (c6, .boolean)] s := hK
  refine W.widen (k := 7) (n := 3584) (by omega) (by omega) ?_
  refine va_putF (D := (dC, dI)) (ci := 1) (v := .ref q6) (ty := .array .boolean) (C := RX1) (T := TX1) (N := 9) hx hb hts hin0 tyX1 tyX1_ok nmX1 hown hK hP hD hS 0 rfl rfl 6 (by decide) fl29 (fun _ h9 => h9) rfl hin rfl (by decide +kernel) rfl rfl (Nat.le_of_ble_eq_true rfl) dX1_init_64 (fun Hp locs hP hD hS => ?_)
  have hP : va_P (dC, dI) vwCl [(o, .inr (1, [.ref q0, .ref q1, .ref q2, .ref q3, .ref q4, .ref q5, .ref q6, .null, .int 0])), (q0, .inl (c0, 512, .inl (fun _ => 0))), (q1, .inl (c1, 512, .inl (fun _ => 0))), (q2, .inl (c2, 512, .inl (fun _ => 0))), (q3, .inl (c3, 512, .inl (fun _ => 0))), (q4, .inl (c4, 512, .inr (.inl (fun _ => 0)))), (q5, .inl (c5, 512, .inl (fun _ => 0))), (q6, .inl (c6, 512, .inl (fun _ => 0)))] Hp := hP
  have hD : va_D A [(o, .inr (1, [.ref q0, .ref q1, .ref q2, .ref q3, .ref q4, .ref q5, .ref q6, .null, .int 0])), (q0, .inl (c0, 512, .inl (fun _ => 0))), (q1, .inl (c1, 512, .inl (fun _ => 0))), (q2, .inl (c2, 512, .inl (fun _ => 0))), (q3, .inl (c3, 512, .inl (fun _ => 0))), (q4, .inl (c4, 512, .inr (.inl (fun _ => 0)))), (q5, .inl (c5, 512, .inl (fun _ => 0))), (q6, .inl (c6, 512, .inl (fun _ => 0)))] := hD
  refine lv_aload_n hx hb dX1_init_67 rfl (lv_at hl 0 rfl) ?_
  refine lv_bipush (v := nI 7) hx hb dX1_init_68 (by decide +kernel) ?_
  refine va_newa (atype := .int) (ty := .int) (N' := 7) (a0 := (7, .inl (fun _ => 0))) hx hb (hts (.arrayClass .int) (by decide +kernel)) rfl hK hP hD hS hA (tk_arI 7) (by decide +kernel) (by decide +kernel) (by decide +kernel) (by decide +kernel) (by decide +kernel) dX1_init_70 (fun q7 c7 Hp hK hP hD hS => ?_)
  have hP : va_P (dC, dI) vwCl [(o, .inr (1, [.ref q0, .ref q1, .ref q2, .ref q3, .ref q4, .ref q5, .ref q6, .null, .int 0])), (q0, .inl (c0, 512, .inl (fun _ => 0))), (q1, .inl (c1, 512, .inl (fun _ => 0))), (q2, .inl (c2, 512, .inl (fun _ => 0))), (q3, .inl (c3, 512, .inl (fun _ => 0))), (q4, .inl (c4, 512, .inr (.inl (fun _ => 0)))), (q5, .inl (c5, 512, .inl (fun _ => 0))), (q6, .inl (c6, 512, .inl (fun _ => 0))), (q7, .inl (c7, 7, .inl (fun _ => 0)))] Hp := hP
  have hD : va_D A [(o, .inr (1, [.ref q0, .ref q1, .ref q2, .ref q3, .ref q4, .ref q5, .ref q6, .null, .int 0])), (q0, .inl (c0, 512, .inl (fun _ => 0))), (q1, .inl (c1, 512, .inl (fun _ => 0))), (q2, .inl (c2, 512, .inl (fun _ => 0))), (q3, .inl (c3, 512, .inl (fun _ => 0))), (q4, .inl (c4, 512, .inr (.inl (fun _ => 0)))), (q5, .inl (c5, 512, .inl (fun _ => 0))), (q6, .inl (c6, 512, .inl (fun _ => 0))), (q7, .inl (c7, 7, .inl (fun _ => 0)))] := hD
  have hK : va_K (dC, dI) vwCl [(c0, .int), (c1, .int), (c2, .int), (c3, .int), (c4, .long), (c5, .int), (c6, .boolean), (c7, .int)] s := hK
  refine W.widen (k := 8) (n := 3591) (by omega) (by omega) ?_
  refine va_putF (D := (dC, dI)) (ci := 1) (v := .ref q7) (ty := .array .int) (C := RX1) (T := TX1) (N := 9) hx hb hts hin0 tyX1 tyX1_ok nmX1 hown hK hP hD hS 0 rfl rfl 7 (by decide) fl33 (fun _ h9 => h9) rfl hin rfl (by decide +kernel) rfl rfl (Nat.le_of_ble_eq_true rfl) dX1_init_72 (fun Hp locs hP hD hS => ?_)
  have hP : va_P (dC, dI) vwCl [(o, .inr (1, [.ref q0, .ref q1, .ref q2, .ref q3, .ref q4, .ref q5, .ref q6, .ref q7, .int 0])), (q0, .inl (c0, 512, .inl (fun _ => 0))), (q1, .inl (c1, 512, .inl (fun _ => 0))), (q2, .inl (c2, 512, .inl (fun _ => 0))), (q3, .inl (c3, 512, .inl (fun _ => 0))), (q4, .inl (c4, 512, .inr (.inl (fun _ => 0)))), (q5, .inl (c5, 512, .inl (fun _ => 0))), (q6, .inl (c6, 512, .inl (fun _ => 0))), (q7, .inl (c7, 7, .inl (fun _ => 0)))] Hp := hP
  have hD : va_D A [(o, .inr (1, [.ref q0, .ref q1, .ref q2, .ref q3, .ref q4, .ref q5, .ref q6, .ref q7, .int 0])), (q0, .inl (c0, 512, .inl (fun _ => 0))), (q1, .inl (c1, 512, .inl (fun _ => 0))), (q2, .inl (c2, 512, .inl (fun _ => 0))), (q3, .inl (c3, 512, .inl (fun _ => 0))), (q4, .inl (c4, 512, .inr (.inl (fun _ => 0)))), (q5, .inl (c5, 512, .inl (fun _ => 0))), (q6, .inl (c6, 512, .inl (fun _ => 0))), (q7, .inl (c7, 7, .inl (fun _ => 0)))] := hD
  refine lv_aload_n hx hb dX1_init_75 rfl (lv_at hl 0 rfl) ?_
  refine lv_iconst (v := nI 1) hx hb dX1_init_76 (by decide +kernel) ?_
  refine va_put (D := (dC, dI)) (ci := 1) (v := .int (nI 1)) (ty := .int) (C := RX1) (T := TX1) (N := 9) hx hb hts hin0 tyX1 tyX1_ok nmX1 hown hK hP hD hS 0 rfl rfl 8 (by decide) fl36 (fun _ h9 => h9) rfl (by decide +kernel) rfl rfl (Nat.le_of_ble_eq_true rfl) dX1_init_77 (fun Hp locs hP hD hS => ?_)
  have hP : va_P (dC, dI) vwCl [(o, .inr (1, [.ref q0, .ref q1, .ref q2, .ref q3, .ref q4, .ref q5, .ref q6, .ref q7, .int (nI 1)])), (q0, .inl (c0, 512, .inl (fun _ => 0))), (q1, .inl (c1, 512, .inl (fun _ => 0))), (q2, .inl (c2, 512, .inl (fun _ => 0))), (q3, .inl (c3, 512, .inl (fun _ => 0))), (q4, .inl (c4, 512, .inr (.inl (fun _ => 0)))), (q5, .inl (c5, 512, .inl (fun _ => 0))), (q6, .inl (c6, 512, .inl (fun _ => 0))), (q7, .inl (c7, 7, .inl (fun _ => 0)))] Hp := hP
  have hD : va_D A [(o, .inr (1, [.ref q0, .ref q1, .ref q2, .ref q3, .ref q4, .ref q5, .ref q6, .ref q7, .int (nI 1)])), (q0, .inl (c0, 512, .inl (fun _ => 0))), (q1, .inl (c1, 512, .inl (fun _ => 0))), (q2, .inl (c2, 512, .inl (fun _ => 0))), (q3, .inl (c3, 512, .inl (fun _ => 0))), (q4, .inl (c4, 512, .inr (.inl (fun _ => 0)))), (q5, .inl (c5, 512, .inl (fun _ => 0))), (q6, .inl (c6, 512, .inl (fun _ => 0))), (q7, .inl (c7, 7, .inl (fun _ => 0)))] := hD
  refine lv_aload_n hx hb dX1_init_80 rfl (lv_at hl 0 rfl) ?_
  refine va_get (D := (dC, dI)) (ci := 1) (v := .ref q0) (C := RX1) (T := TX1) (N := 9) hx hb hts hin0 hown hK hP 0 rfl rfl 0 (by decide) fl9 (fun _ h9 => h9) rfl dX1_init_81 ?_
  refine lv_iconst (v := nI 0) hx hb dX1_init_84 (by decide +kernel) ?_
  refine lv_bipush (v := -2) hx hb dX1_init_85 (by decide +kernel) ?_
  refine tk_sti hx hb hK hP hD hS 1 0 rfl rfl 0 (by decide) (by decide) dX1_init_87 (fun Hp locs hP hD hS => ?_)
  have hP : va_P (dC, dI) vwCl [(o, .inr (1, [.ref q0, .ref q1, .ref q2, .ref q3, .ref q4, .ref q5, .ref q6, .ref q7, .int (nI 1)])), (q0, .inl (c0, 512, .inl (upd (fun _ => 0) 0 (-2)))), (q1, .inl (c1, 512, .inl (fun _ => 0))), (q2, .inl (c2, 512, .inl (fun _ => 0))), (q3, .inl (c3, 512, .inl (fun _ => 0))), (q4, .inl (c4, 512, .inr (.inl (fun _ => 0)))), (q5, .inl (c5, 512, .inl (fun _ => 0))), (q6, .inl (c6, 512, .inl (fun _ => 0))), (q7, .inl (c7, 7, .inl (fun _ => 0)))] Hp := hP
  have hD : va_D A [(o, .inr (1, [.ref q0, .ref q1, .ref q2, .ref q3, .ref q4, .ref q5, .ref q6, .ref q7, .int (nI 1)])), (q0, .inl (c0, 512, .inl (upd (fun _ => 0) 0 (-2)))), (q1, .inl (c1, 512, .inl (fun _ => 0))), (q2, .inl (c2, 512, .inl (fun _ => 0))), (q3, .inl (c3, 512, .inl (fun _ => 0))), (q4, .inl (c4, 512, .inr (.inl (fun _ => 0)))), (q5, .inl (c5, 512, .inl (fun _ => 0))), (q6, .inl (c6, 512, .inl (fun _ => 0))), (q7, .inl (c7, 7, .inl (fun _ => 0)))] := hD
  refine lv_aload_n hx hb dX1_init_88 rfl (lv_at hl 0 rfl) ?_
  refine va_get (D := (dC, dI)) (ci := 1) (v := .ref q3) (C := RX1) (T := TX1) (N := 9) hx hb hts hin0 hown hK hP 0 rfl rfl 3 (by decide) fl19 (fun _ h9 => h9) rfl dX1_init_89 ?_
  refine lv_iconst (v := nI 0) hx hb dX1_init_92 (by decide +kernel) ?_
  refine lv_ldc (v := 32768) hx hb hown kc40 dX1_init_93 ?_
  refine tk_top (y := nI 32768) (by decide +kernel) ?_
  refine tk_sti hx hb hK hP hD hS 4 3 rfl rfl 0 (by decide) (by decide) dX1_init_95 (fun Hp locs hP hD hS => ?_)
  have hP : va_P (dC, dI) vwCl [(o, .inr (1, [.ref q0, .ref q1, .ref q2, .ref q3, .ref q4, .ref q5, .ref q6, .ref q7, .int (nI 1)])), (q0, .inl (c0, 512, .inl (upd (fun _ => 0) 0 (-2)))), (q1, .inl (c1, 512, .inl (fun _ => 0))), (q2, .inl (c2, 512, .inl (fun _ => 0))), (q3, .inl (c3, 512, .inl (upd (fun _ => 0) 0 (nI 32768)))), (q4, .inl (c4, 512, .inr (.inl (fun _ => 0)))), (q5, .inl (c5, 512, .inl (fun _ => 0))), (q6, .inl (c6, 512, .inl (fun _ => 0))), (q7, .inl (c7, 7, .inl (fun _ => 0)))] Hp := hP
  have hD : va_D A [(o, .inr (1, [.ref q0, .ref q1, .ref q2, .ref q3, .ref q4, .ref q5, .ref q6, .ref q7, .int (nI 1)])), (q0, .inl (c0, 512, .inl (upd (fun _ => 0) 0 (-2)))), (q1, .inl (c1, 512, .inl (fun _ => 0))), (q2, .inl (c2, 512, .inl (fun _ => 0))), (q3, .inl (c3, 512, .inl (upd (fun _ => 0) 0 (nI 32768)))), (q4, .inl (c4, 512, .inr (.inl (fun _ => 0)))), (q5, .inl (c5, 512, .inl (fun _ => 0))), (q6, .inl (c6, 512, .inl (fun _ => 0))), (q7, .inl (c7, 7, .inl (fun _ => 0)))] := hD
  exact W.vret hx hb hr (fun t ht hW => ⟨⟨(tk_pk q0 q1 q2 q3 q4 q5 q6 q7, tk_pk c0 c1 c2 c3 c4 c5 c6 c7), rfl, trivial, by rw [ht]; exact hP, va_K.moved hW.alike hK, hD⟩, hS.F ht⟩) hS.2.2 dX1_init_96
