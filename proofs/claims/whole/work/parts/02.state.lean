/-! MY WORDS FOR THE STATE, and rows of mine over the kit's: reads and writes at a natural place, ends of reading methods -/
section TK1
variable {p : Program} {l : Launch} {e : Env} {R : Room} {s : State} {m : MethodId} {args : Array Value} {below : List Frame} {meth : Method} {c : Code} {H : Heap} {locs : List Loc} {cells slots : Nat} {Q : State → Prop}
variable {cc : ByteArray} {pc : Nat} {ls : Array Slot} {rest : List Value} {D : va_G} {cl : List vw_C} {A : Nat → Prop} {a : Nat} {tys : List (ClassId × FieldType)} {ws : va_W} {H0 : Heap}
theorem tk_Q {g : JFrame} (h : ∀ Q' : State → Prop, Q' = Q → W p l e R s m args below meth c H locs cells slots Q' g) : W p l e R s m args below meth c H locs cells slots Q g := h Q rfl
theorem tk_top {x y : Int32} (h : x = y) (k : W p l e R s m args below meth c H locs cells slots Q (F0 m pc ls (.int y :: rest))) : W p l e R s m args below meth c H locs cells slots Q (F0 m pc ls (.int x :: rest)) := by
  rw [h]; exact k
theorem tk_topl {x y : Int64} (h : x = y) (k : W p l e R s m args below meth c H locs cells slots Q (F0 m pc ls (.long y :: rest))) : W p l e R s m args below meth c H locs cells slots Q (F0 m pc ls (.long x :: rest)) := by
  rw [h]; exact k
theorem tk_lcmp {x y : Int64} {v : Int32} (hx : p.tables.exec = Jvm.exec) (hb : c.code = cc) (hdg : decode cc pc = .ok (.lcmp, 1)) (hv : lg_cmp x y = v) (k : W p l e R s m args below meth c H locs cells slots Q (F0 m (pc + 1) ls (.int v :: rest))) : W p l e R s m args below meth c H locs cells slots Q (F0 m pc ls (.long y :: .long x :: rest)) := by
  refine W.lcmp hx hb hdg ?_
  rw [hv]; exact k
theorem tk_rdi (hx : p.tables.exec = Jvm.exec) (hb : c.code = cc) (hK : va_K D cl tys s) (hP : va_P D cl ws H) (q0 t0 : Nat) {cA : ClassId} {n : Nat} {f : Nat → Int32} (ha : ws[q0]? = some (a, .inl (cA, n, .inl f))) (ht : tys[t0]? = some (cA, .int)) (k : Nat) (hk : k < n) (hn : n < 2 ^ 31) {v : Int32} (hv : f k = v) (hdg : decode cc pc = .ok (.iaload, 1))
    (kk : W p l e R s m args below meth c H locs cells slots Q (F0 m (pc + 1) ls (.int v :: rest))) : W p l e R s m args below meth c H locs cells slots Q (F0 m pc ls (.int (nI k) :: .ref a :: rest)) := by
  refine va_iald hx hb hK hP q0 t0 ha ht (vp_in_nI hk hn) hdg ?_
  rw [nI_clamp (Nat.lt_trans hk hn), hv]; exact kk
theorem tk_rdz (hx : p.tables.exec = Jvm.exec) (hb : c.code = cc) (hK : va_K D cl tys s) (hP : va_P D cl ws H) (q0 t0 : Nat) {cA : ClassId} {n : Nat} {f : Nat → Int32} (ha : ws[q0]? = some (a, .inl (cA, n, .inl f))) (ht : tys[t0]? = some (cA, .boolean)) (k : Nat) (hk : k < n) (hn : n < 2 ^ 31) {v : Int32} (hv : f k = v) (hdg : decode cc pc = .ok (.baload, 1))
    (kk : W p l e R s m args below meth c H locs cells slots Q (F0 m (pc + 1) ls (.int v :: rest))) : W p l e R s m args below meth c H locs cells slots Q (F0 m pc ls (.int (nI k) :: .ref a :: rest)) := by
  refine va_zald hx hb hK hP q0 t0 ha ht (vp_in_nI hk hn) hdg ?_
  rw [nI_clamp (Nat.lt_trans hk hn), hv]; exact kk
theorem tk_rdl (hx : p.tables.exec = Jvm.exec) (hb : c.code = cc) (hK : va_K D cl tys s) (hP : va_P D cl ws H) (q0 t0 : Nat) {cA : ClassId} {n : Nat} {f : Nat → Int64} (ha : ws[q0]? = some (a, .inl (cA, n, .inr (.inl f)))) (ht : tys[t0]? = some (cA, .long)) (k : Nat) (hk : k < n) (hn : n < 2 ^ 31) {v : Int64} (hv : f k = v) (hdg : decode cc pc = .ok (.laload, 1))
    (kk : W p l e R s m args below meth c H locs cells slots Q (F0 m (pc + 1) ls (.long v :: rest))) : W p l e R s m args below meth c H locs cells slots Q (F0 m pc ls (.int (nI k) :: .ref a :: rest)) := by
  refine va_lald hx hb hK hP q0 t0 ha ht (vp_in_nI hk hn) hdg ?_
  rw [nI_clamp (Nat.lt_trans hk hn), hv]; exact kk
theorem tk_sti (hx : p.tables.exec = Jvm.exec) (hb : c.code = cc) (hK : va_K D cl tys s) (hP : va_P D cl ws H) (hD : va_D A ws) (hS : va_S A H0 H locs) (q0 t0 : Nat) {cA : ClassId} {n : Nat} {f : Nat → Int32} (ha : ws[q0]? = some (a, .inl (cA, n, .inl f))) (ht : tys[t0]? = some (cA, .int)) (k : Nat) (hk : k < n) (hn : n < 2 ^ 31) {x : Int32} (hdg : decode cc pc = .ok (.iastore, 1))
    (kk : ∀ (H1 : Heap) (locs1 : List Loc), va_P D cl (ws.set q0 (a, .inl (cA, n, .inl (upd f k x)))) H1 → va_D A (ws.set q0 (a, .inl (cA, n, .inl (upd f k x)))) → va_S A H0 H1 locs1 → W p l e R s m args below meth c H1 locs1 cells slots Q (F0 m (pc + 1) ls rest)) : W p l e R s m args below meth c H locs cells slots Q (F0 m pc ls (.int x :: .int (nI k) :: .ref a :: rest)) := by
  refine va_iast hx hb hK hP hD hS q0 t0 ha ht (vp_in_nI hk hn) hdg ?_
  rw [nI_clamp (Nat.lt_trans hk hn)]; exact kk
theorem tk_stz (hx : p.tables.exec = Jvm.exec) (hb : c.code = cc) (hK : va_K D cl tys s) (hP : va_P D cl ws H) (hD : va_D A ws) (hS : va_S A H0 H locs) (q0 t0 : Nat) {cA : ClassId} {n : Nat} {f : Nat → Int32} (ha : ws[q0]? = some (a, .inl (cA, n, .inl f))) (ht : tys[t0]? = some (cA, .boolean)) (k : Nat) (hk : k < n) (hn : n < 2 ^ 31) {x x' : Int32} (hv : vp_nar .boolean x = x') (hdg : decode cc pc = .ok (.bastore, 1))
    (kk : ∀ (H1 : Heap) (locs1 : List Loc), va_P D cl (ws.set q0 (a, .inl (cA, n, .inl (upd f k x')))) H1 → va_D A (ws.set q0 (a, .inl (cA, n, .inl (upd f k x')))) → va_S A H0 H1 locs1 → W p l e R s m args below meth c H1 locs1 cells slots Q (F0 m (pc + 1) ls rest)) : W p l e R s m args below meth c H locs cells slots Q (F0 m pc ls (.int x :: .int (nI k) :: .ref a :: rest)) := by
  refine va_zast hx hb hK hP hD hS q0 t0 ha ht (vp_in_nI hk hn) hdg ?_
  rw [nI_clamp (Nat.lt_trans hk hn), hv]; exact kk
theorem tk_stl (hx : p.tables.exec = Jvm.exec) (hb : c.code = cc) (hK : va_K D cl tys s) (hP : va_P D cl ws H) (hD : va_D A ws) (hS : va_S A H0 H locs) (q0 t0 : Nat) {cA : ClassId} {n : Nat} {f : Nat → Int64} (ha : ws[q0]? = some (a, .inl (cA, n, .inr (.inl f)))) (ht : tys[t0]? = some (cA, .long)) (k : Nat) (hk : k < n) (hn : n < 2 ^ 31) {x : Int64} (hdg : decode cc pc = .ok (.lastore, 1))
    (kk : ∀ (H1 : Heap) (locs1 : List Loc), va_P D cl (ws.set q0 (a, .inl (cA, n, .inr (.inl (vp_updL f k x))))) H1 → va_D A (ws.set q0 (a, .inl (cA, n, .inr (.inl (vp_updL f k x))))) → va_S A H0 H1 locs1 → W p l e R s m args below meth c H1 locs1 cells slots Q (F0 m (pc + 1) ls rest)) : W p l e R s m args below meth c H locs cells slots Q (F0 m pc ls (.long x :: .int (nI k) :: .ref a :: rest)) := by
  refine va_last hx hb hK hP hD hS q0 t0 ha ht (vp_in_nI hk hn) hdg ?_
  rw [nI_clamp (Nat.lt_trans hk hn)]; exact kk
theorem tk_iret {post : Int32 → Prop} {v : Int32} (hx : p.tables.exec = Jvm.exec) (hb : c.code = cc) (hr : meth.sig.returnType = some .int) (hlk : meth.locks = false) (hp : post v) (hdg : decode cc pc = .ok (.ireturn, 1)) : W p l e R s m args below meth c s.heap [] cells slots (MQ below (vp_Si post) args s cells slots (fun _ => False)) (F0 m pc ls [.int v]) :=
  W.iret hx hb hr (fun t ht _ => ⟨v, rfl, hp, ht⟩) (fun _ h => absurd h List.not_mem_nil) hdg hlk
theorem tk_zret {post : Int32 → Prop} {v : Int32} (hx : p.tables.exec = Jvm.exec) (hb : c.code = cc) (hr : meth.sig.returnType = some .boolean) (hlk : meth.locks = false) (hn : narrow .boolean (.int v) = .int v) (hp : post v) (hdg : decode cc pc = .ok (.ireturn, 1)) : W p l e R s m args below meth c s.heap [] cells slots (MQ below (vp_Si post) args s cells slots (fun _ => False)) (F0 m pc ls [.int v]) :=
  W.zret hx hb hr hn (fun t ht _ => ⟨v, rfl, hp, ht⟩) (fun _ h => absurd h List.not_mem_nil) hdg hlk
theorem tk_lret {post : Int64 → Prop} {v : Int64} (hx : p.tables.exec = Jvm.exec) (hb : c.code = cc) (hr : meth.sig.returnType = some .long) (hlk : meth.locks = false) (hp : post v) (hdg : decode cc pc = .ok (.lreturn, 1)) : W p l e R s m args below meth c s.heap [] cells slots (MQ below (vp_Sl post) args s cells slots (fun _ => False)) (F0 m pc ls [.long v]) :=
  W.lret hx hb hr (fun t ht _ => ⟨v, rfl, hp, ht⟩) (fun _ h => absurd h List.not_mem_nil) hdg hlk
end TK1
/-- the class's cells: the object, its eight arrays -/
abbrev tk_w0 (o : Nat) (q : Nat → Nat) (ca : Nat → ClassId) (aP aH aT aA aG aK aZ aS : Nat → Int32) (n : Nat) : va_W := [(o, .inr (0, [.ref (q 0), .ref (q 1), .ref (q 2), .ref (q 3), .ref (q 4), .ref (q 5), .ref (q 6), .ref (q 7), .int (nI n)])), (q 0, .inl (ca 0, 512, .inl aP)), (q 1, .inl (ca 1, 512, .inl aH)), (q 2, .inl (ca 2, 512, .inl aT)), (q 3, .inl (ca 3, 512, .inl aA)), (q 4, .inl (ca 4, 512, .inl aG)), (q 5, .inl (ca 5, 512, .inl aK)), (q 6, .inl (ca 6, 512, .inl aZ)), (q 7, .inl (ca 7, 7, .inl aS))]
abbrev tk_t0 (ca : Nat → ClassId) : List (ClassId × FieldType) := [(ca 0, .int), (ca 1, .int), (ca 2, .int), (ca 3, .int), (ca 4, .int), (ca 5, .int), (ca 6, .boolean), (ca 7, .int)]
/-- the reference's cells -/
abbrev tk_w1 (o : Nat) (q : Nat → Nat) (ca : Nat → ClassId) (aP aH aT aG : Nat → Int32) (aL : Nat → Int64) (aA aF aS : Nat → Int32) (n : Nat) : va_W := [(o, .inr (1, [.ref (q 0), .ref (q 1), .ref (q 2), .ref (q 3), .ref (q 4), .ref (q 5), .ref (q 6), .ref (q 7), .int (nI n)])), (q 0, .inl (ca 0, 512, .inl aP)), (q 1, .inl (ca 1, 512, .inl aH)), (q 2, .inl (ca 2, 512, .inl aT)), (q 3, .inl (ca 3, 512, .inl aG)), (q 4, .inl (ca 4, 512, .inr (.inl aL))), (q 5, .inl (ca 5, 512, .inl aA)), (q 6, .inl (ca 6, 512, .inl aF)), (q 7, .inl (ca 7, 7, .inl aS))]
abbrev tk_t1 (ca : Nat → ClassId) : List (ClassId × FieldType) := [(ca 0, .int), (ca 1, .int), (ca 2, .int), (ca 3, .int), (ca 4, .long), (ca 5, .int), (ca 6, .boolean), (ca 7, .int)]
/-- a reading method's start -/
abbrev tk_R (D : va_G) (w : va_W) (tys : List (ClassId × FieldType)) (av : List Value) : Array Value → State → Prop := va_Pc av (fun U => va_P D vwCl w U.heap ∧ va_K D vwCl tys U)
theorem tk_pre {D : va_G} {w : va_W} {tys : List (ClassId × FieldType)} {s : State} {H : Heap} {C : String} {T : u_T} {N ci o : Nat} {fs As : List Value} (hK : va_K D vwCl tys s) (hP : va_P D vwCl w H) (he : w[0]? = some (o, .inr (ci, fs))) (hc : vwCl[ci]? = some (C, T, N)) : PreV s H C o (tk_R D w tys (.ref o :: As)) As :=
  ⟨fun a U g mk q => ⟨q.1, q.2.1, va_K.moved (u := U) (U := U.calling g mk a) (Vm.Alike.refl U.vm) q.2.2⟩, va_recv hK hP hc he, fun U hU hW => ⟨rfl, by rw [hU]; exact hP, va_K.moved hW.alike hK⟩⟩
/-- a writing method's start and its end -/
abbrev tk_Wp (D : va_G) (w : va_W) (tys : List (ClassId × FieldType)) (sz : Nat) (av : List Value) : Array Value → State → Prop := va_Pc av (fun U => U.heap.size = sz ∧ va_P D vwCl w U.heap ∧ va_K D vwCl tys U ∧ va_D (fun _ => True) w)
abbrev tk_E (D : va_G) (tys : List (ClassId × FieldType)) (A : Nat → Prop) (w : va_W) (t : State) : Prop := va_P D vwCl w t.heap ∧ va_K D vwCl tys t ∧ va_D A w
theorem tk_preW {D : va_G} {w : va_W} {tys : List (ClassId × FieldType)} {s : State} {H : Heap} {C : String} {T : u_T} {N ci o : Nat} {fs As : List Value} {A : Nat → Prop} (hK : va_K D vwCl tys s) (hP : va_P D vwCl w H) (hD : va_D A w) (he : w[0]? = some (o, .inr (ci, fs))) (hc : vwCl[ci]? = some (C, T, N)) : PreV s H C o (tk_Wp D w tys H.size (.ref o :: As)) As :=
  ⟨fun a U g mk q => ⟨q.1, q.2.1, q.2.2.1, va_K.moved (u := U) (U := U.calling g mk a) (Vm.Alike.refl U.vm) q.2.2.2.1, q.2.2.2.2⟩, va_recv hK hP hc he, fun U hU hW => ⟨rfl, by rw [hU], by rw [hU]; exact hP, va_K.moved hW.alike hK, hD.weaken (fun _ _ _ _ => trivial)⟩⟩
/-! numbers -/
theorem tk_dec (n : Nat) : nI (n + 1) + Int32.ofInt (-1) = nI n := by
  rw [show Int32.ofInt (-1) = -1 from by decide +kernel]; exact pk_m1 n
theorem tk_inc (n : Nat) : nI n + Int32.ofInt 1 = nI (n + 1) := by
  rw [show Int32.ofInt 1 = 1 from by decide +kernel]; exact nI_1 n
theorem tk_le0 {n : Nat} (h : n < 2 ^ 31) : nI n ≤ 0 ↔ n = 0 := by
  constructor
  · intro h1
    rcases Nat.eq_zero_or_pos n with e | e
    · exact e
    · exact absurd h1 (nI_nle e h)
  · intro e; subst e; exact nI_le (Nat.le_refl _) (by decide)
theorem tk_add1 (n : Nat) : nI n + nI 1 = nI (n + 1) := nI_add n 1
theorem tk_sub1 (n : Nat) : nI (n + 1) - nI 1 = nI n := pk_sub (Nat.le_add_left 1 n)
def tk_mn (a b : Nat) : Nat := if b < a then b else a
theorem tk_mnI {a b : Nat} (ha : a < 2 ^ 31) (hb : b < 2 ^ 31) : (if nI b < nI a then nI b else nI a) = nI (tk_mn a b) := by
  unfold tk_mn
  by_cases h : b < a
  · rw [if_pos h, if_pos ((nI_ltI hb ha).mpr h)]
  · rw [if_neg h, if_neg (fun z => h ((nI_ltI hb ha).mp z))]
theorem tk_mn_le {a b : Nat} : tk_mn a b ≤ a ∧ tk_mn a b ≤ b := by
  unfold tk_mn; split <;> omega
/-! a block that exists -/
def tk_ex (n : Nat) (b : Int32) : Int32 := if b < 0 then 0 else if nI n ≤ b then 0 else 1
theorem tk_ex_t {n : Nat} {b : Int32} (hn : n ≤ 512) (h : ¬ tk_ex n b = 0) : ∃ j, j < n ∧ b = nI j := by
  rcases pk_ix b (n := n) (by omega) with h1 | h1 | h1
  · exact absurd (by unfold tk_ex; rw [if_pos h1]) h
  · exfalso; apply h; unfold tk_ex
    by_cases h2 : b < 0
    · rw [if_pos h2]
    · rw [if_neg h2, if_pos h1]
  · exact h1
theorem tk_ex_n {n j : Nat} (hn : n ≤ 512) (hj : j < n) : tk_ex n (nI j) = 1 := by
  unfold tk_ex
  rw [if_neg (nI_pos (by omega)), if_neg (nI_ge hj (by omega))]
theorem tk_10 : ¬ (1 : Int32) = 0 := by decide
theorem tk_cl {n j : Nat} (hn : n ≤ 512) (hj : j < n) : (nI j).toNatClampNeg = j := nI_clamp (by omega)
/-! the tree: parents pa, heights he -/
def tk_I (aP aH : Nat → Int32) (pa he : Nat → Nat) (n : Nat) : Prop := (1 ≤ n ∧ n ≤ 512) ∧ aP 0 = -2 ∧ he 0 = 0 ∧ (∀ i, i < n → aH i = nI (he i) ∧ he i ≤ i) ∧ (∀ i, 0 < i → i < n → aP i = nI (pa i) ∧ pa i < i ∧ he i = he (pa i) + 1)
theorem tk_up {aP aH : Nat → Int32} {pa he : Nat → Nat} {n i : Nat} (h : tk_I aP aH pa he n) (hi : i < n) (h0 : 0 < he i) : 0 < i ∧ aP i = nI (pa i) ∧ pa i < i ∧ he i = he (pa i) + 1 := by
  have h1 : 0 < i := by
    rcases Nat.eq_zero_or_pos i with e | e
    · subst e; rw [h.2.2.1] at h0; omega
    · exact e
  exact ⟨h1, h.2.2.2.2 i h1 hi⟩
theorem tk_h0 {aP aH : Nat → Int32} {pa he : Nat → Nat} {n i : Nat} (h : tk_I aP aH pa he n) (hi : i < n) (h0 : he i = 0) : i = 0 := by
  rcases Nat.eq_zero_or_pos i with e | e
  · exact e
  · have := (h.2.2.2.2 i e hi).2.2; omega
def tk_anc (pa : Nat → Nat) : Nat → Nat → Nat
  | 0, j => j
  | k + 1, j => tk_anc pa k (pa j)
theorem tk_anc_in {aP aH : Nat → Int32} {pa he : Nat → Nat} {n : Nat} (h : tk_I aP aH pa he n) : ∀ (k j : Nat), j < n → k ≤ he j → tk_anc pa k j ≤ j ∧ he (tk_anc pa k j) + k = he j := by
  intro k
  induction k with
  | zero => intro j hj hk; exact ⟨Nat.le_refl _, rfl⟩
  | succ k ih =>
    intro j hj hk
    obtain ⟨h1, h2, h3, h4⟩ := tk_up h hj (by omega)
    obtain ⟨h5, h6⟩ := ih (pa j) (by omega) (by omega)
    refine ⟨?_, ?_⟩
    · show tk_anc pa k (pa j) ≤ j
      omega
    · show he (tk_anc pa k (pa j)) + (k + 1) = he j
      omega
/-! where two part -/
def tk_fk (pa : Nat → Nat) : Nat → Nat → Nat → Nat
  | 0, a, _ => a
  | h + 1, a, b => if a = b then a else tk_fk pa h (pa a) (pa b)
def tk_fork (pa he : Nat → Nat) (a b : Nat) : Nat := tk_fk pa (tk_mn (he a) (he b)) (tk_anc pa (he a - tk_mn (he a) (he b)) a) (tk_anc pa (he b - tk_mn (he a) (he b)) b)
theorem tk_fk_same (pa : Nat → Nat) (h a : Nat) : tk_fk pa h a a = a := by
  cases h with
  | zero => rfl
  | succ h => show (if a = a then a else _) = a; rw [if_pos rfl]
theorem tk_fork_eq (pa he : Nat → Nat) (a : Nat) : tk_fork pa he a a = a := by
  have e : tk_mn (he a) (he a) = he a := by unfold tk_mn; split <;> rfl
  unfold tk_fork
  rw [e, Nat.sub_self]
  exact tk_fk_same pa (he a) a
theorem tk_fork_l {aP aH : Nat → Int32} {pa he : Nat → Nat} {n a b : Nat} (h : tk_I aP aH pa he n) (ha : a < n) (hb : b < n) (hne : a ≠ b) (hge : he b ≤ he a) : 0 < a ∧ tk_fork pa he (pa a) b = tk_fork pa he a b := by
  have hpos : 0 < he a := by
    rcases Nat.eq_zero_or_pos (he a) with e | e
    · exact absurd ((tk_h0 h ha e).trans (tk_h0 h hb (by omega)).symm) hne
    · exact e
  obtain ⟨h1, h2, h3, h4⟩ := tk_up h ha hpos
  refine ⟨h1, ?_⟩
  rcases Nat.lt_or_ge (he b) (he a) with hlt | hle
  · have e1 : tk_mn (he a) (he b) = he b := if_pos hlt
    have e2 : tk_mn (he (pa a)) (he b) = he b := by unfold tk_mn; split <;> omega
    have e3 : he a - he b = (he (pa a) - he b) + 1 := by omega
    unfold tk_fork
    rw [e1, e2, e3]; rfl
  · have e0 : he b = he (pa a) + 1 := by omega
    have e1 : tk_mn (he a) (he b) = he (pa a) + 1 := by unfold tk_mn; split <;> omega
    have e2 : tk_mn (he (pa a)) (he b) = he (pa a) := by unfold tk_mn; split <;> omega
    unfold tk_fork
    rw [e1, e2, e0, h4, Nat.sub_self, Nat.sub_self, Nat.add_sub_cancel_left]
    show tk_fk pa (he (pa a)) (pa a) (pa b) = (if a = b then a else tk_fk pa (he (pa a)) (pa a) (pa b))
    rw [if_neg hne]
theorem tk_fork_r {aP aH : Nat → Int32} {pa he : Nat → Nat} {n a b : Nat} (h : tk_I aP aH pa he n) (hb : b < n) (hlt : he a < he b) : 0 < b ∧ tk_fork pa he a (pa b) = tk_fork pa he a b := by
  obtain ⟨h1, h2, h3, h4⟩ := tk_up h hb (by omega)
  refine ⟨h1, ?_⟩
  have e1 : tk_mn (he a) (he b) = he a := by unfold tk_mn; split <;> omega
  have e2 : tk_mn (he a) (he (pa b)) = he a := by unfold tk_mn; split <;> omega
  have e3 : he b - he a = (he (pa b) - he a) + 1 := by omega
  unfold tk_fork
  rw [e1, e2, e3]; rfl
/-! within, and the target behind a block -/
def tk_wi (v lo hi : Int32) : Int32 := if lo < (if v < hi then v else hi) then (if v < hi then v else hi) else lo
theorem tk_eqI {x y : Int32} (h : x.toInt = y.toInt) : x = y := Int32.toInt_inj.mp h
theorem tk_wi_m {v lo hi : Int32} (h1 : lo ≤ v) (h2 : v ≤ hi) : tk_wi v lo hi = v := by
  rw [Int32.le_iff_toInt_le] at h1 h2
  unfold tk_wi
  by_cases h3 : v < hi
  · rw [if_pos h3]
    by_cases h4 : lo < v
    · rw [if_pos h4]
    · rw [if_neg h4]; rw [Int32.lt_iff_toInt_lt] at h4; exact tk_eqI (by omega)
  · rw [if_neg h3]
    rw [Int32.lt_iff_toInt_lt] at h3
    by_cases h4 : lo < hi
    · rw [if_pos h4]; exact tk_eqI (by omega)
    · rw [if_neg h4]; rw [Int32.lt_iff_toInt_lt] at h4; exact tk_eqI (by omega)
theorem tk_wi_h {v lo hi : Int32} (h0 : lo ≤ hi) (h2 : ¬ v ≤ hi) : tk_wi v lo hi = hi := by
  rw [Int32.le_iff_toInt_le] at h0 h2
  unfold tk_wi
  rw [if_neg (show ¬ v < hi from by rw [Int32.lt_iff_toInt_lt]; omega)]
  by_cases h4 : lo < hi
  · rw [if_pos h4]
  · rw [if_neg h4]; rw [Int32.lt_iff_toInt_lt] at h4; exact tk_eqI (by omega)
theorem tk_wi_l {v lo hi : Int32} (h0 : lo ≤ hi) (h1 : ¬ lo ≤ v) : tk_wi v lo hi = lo := by
  rw [Int32.le_iff_toInt_le] at h0 h1
  unfold tk_wi
  rw [if_pos (show v < hi from by rw [Int32.lt_iff_toInt_lt]; omega), if_neg (show ¬ lo < v from by rw [Int32.lt_iff_toInt_lt]; omega)]
theorem tk_wi_in {v lo hi : Int32} (h0 : lo ≤ hi) : lo ≤ tk_wi v lo hi ∧ tk_wi v lo hi ≤ hi := by
  by_cases h1 : lo ≤ v
  · by_cases h2 : v ≤ hi
    · rw [tk_wi_m h1 h2]; exact ⟨h1, h2⟩
    · rw [tk_wi_h h0 h2]; exact ⟨h0, Int32.le_refl _⟩
  · rw [tk_wi_l h0 h1]; exact ⟨Int32.le_refl _, h0⟩
def tk_tb (pa he : Nat → Nat) (aT aG : Nat → Int32) (j : Nat) : Int32 := if (he j + 1) % 8 = 0 then tk_wi (aG j * tk_wi (aT j - aT (tk_anc pa 7 j)) (nI 20) (nI 320) / nI 80) (nI 2048) (nI 65535) else aG j
def tk_G (aG : Nat → Int32) (n : Nat) : Prop := ∀ i, i < n → ∃ g, 2048 ≤ g ∧ g ≤ 65535 ∧ aG i = nI g
theorem tk_tb_in {pa he : Nat → Nat} {aT aG : Nat → Int32} {n j : Nat} (h : tk_G aG n) (hj : j < n) : ∃ g, 2048 ≤ g ∧ g ≤ 65535 ∧ tk_tb pa he aT aG j = nI g := by
  unfold tk_tb
  by_cases h1 : (he j + 1) % 8 = 0
  · rw [if_pos h1]
    obtain ⟨h2, h3⟩ := tk_wi_in (v := aG j * tk_wi (aT j - aT (tk_anc pa 7 j)) (nI 20) (nI 320) / nI 80) (lo := nI 2048) (hi := nI 65535) (by decide +kernel)
    generalize tk_wi (aG j * tk_wi (aT j - aT (tk_anc pa 7 j)) (nI 20) (nI 320) / nI 80) (nI 2048) (nI 65535) = z at h2 h3
    have h4 : ¬ z < 0 := by
      rw [Int32.le_iff_toInt_le, nI_toInt (by decide)] at h2
      rw [Int32.lt_iff_toInt_lt, Int32.toInt_zero]; omega
    obtain ⟨g, hg, rfl⟩ := nI_of2 (M := nI 65535) (n := 65535) (nI_toInt (by decide)) h4 h3
    exact ⟨g, (nI_leI (by decide) (by omega)).mp h2, hg, rfl⟩
  · rw [if_neg h1]; exact h j hj
/-! the median: an insertion into a sorted row -/
def tk_ins (t : Int32) : Nat → (Nat → Int32) → (Nat → Int32)
  | 0, S => upd S 0 t
  | k + 1, S => if t < S k then tk_ins t k (upd S (k + 1) (S k)) else upd S (k + 1) t
def tk_md (pa : Nat → Nat) (aT : Nat → Int32) : Nat → Nat → Nat → (Nat → Int32) → (Nat → Int32)
  | 0, _, _, S => S
  | c + 1, f, j, S => tk_md pa aT c (f + 1) (pa j) (tk_ins (aT j) f S)
def tk_mS (pa he : Nat → Nat) (aT : Nat → Int32) (j : Nat) (S : Nat → Int32) : Nat → Int32 := tk_md pa aT (tk_mn (he j + 1) 7) 0 j S
def tk_med (pa he : Nat → Nat) (aT : Nat → Int32) (j : Nat) (S : Nat → Int32) : Int32 := tk_mS pa he aT j S (tk_mn (he j + 1) 7 / 2)
/-! the best block -/
def tk_isb (wk : Nat → Nat) (aA : Nat → Int32) (a b : Nat) : Int32 := if wk b < wk a ∨ (wk b = wk a ∧ aA a < aA b) then 1 else 0
def tk_bs (aZ aA : Nat → Int32) (wk : Nat → Nat) : Nat → Nat → Nat → Nat
  | 0, _, f => f
  | c + 1, b, f => tk_bs aZ aA wk c (b + 1) (if aZ b = 0 ∧ (wk f < wk b ∨ (wk f = wk b ∧ aA b < aA f)) then b else f)
def tk_best (aZ aA : Nat → Int32) (wk : Nat → Nat) (n : Nat) : Nat := tk_bs aZ aA wk (n - 1) 1 0
def tk_Wk (aK : Nat → Int32) (wk : Nat → Nat) (n : Nat) : Prop := ∀ i, i < n → aK i = nI (wk i) ∧ wk i ≤ 8192 * i
/-! wrong blocks -/
def tk_wI (pa : Nat → Nat) (aF aZ : Nat → Int32) (n : Nat) : Prop := aZ 0 = 0 ∧ (∀ i, i < n → aZ i = 0 ∨ aZ i = 1) ∧ (∀ i, 0 < i → i < n → aZ i = if aF i = 0 then aZ (pa i) else 1)
def tk_rf (pa : Nat → Nat) : Nat → Nat → (Nat → Int32) → (Nat → Int32)
  | 0, _, Z => Z
  | c + 1, i, Z => tk_rf pa c (i + 1) (if Z (pa i) = 0 then Z else upd Z i 1)
theorem tk_rf_go {pa : Nat → Nat} {aF aZ : Nat → Int32} {n j : Nat} (hp : ∀ i, 0 < i → i < n → pa i < i) (hw : tk_wI pa aF aZ n) (hj : 0 < j) : ∀ (c i : Nat) (Z : Nat → Int32), i + c = n → j < i → Z 0 = 0 → (∀ x, x < n → Z x = 0 ∨ Z x = 1) → (∀ x, 0 < x → x < i → Z x = if upd aF j 1 x = 0 then Z (pa x) else 1) → (∀ x, i ≤ x → x < n → Z x = aZ x) → (∀ x, x < n → aZ x = 1 → Z x = 1) → tk_wI pa (upd aF j 1) (tk_rf pa c i Z) n := by
  intro c
  induction c with
  | zero =>
    intro i Z hi hji h0 h01 hlow hup hmono
    exact ⟨h0, h01, fun x hx hxn => hlow x hx (by omega)⟩
  | succ c ih =>
    intro i Z hi hji h0 h01 hlow hup hmono
    have hin : i < n := by omega
    have hpi : pa i < i := hp i (by omega) hin
    have hFi : upd aF j 1 i = aF i := pk_un (by omega)
    have hZi : Z i = if aF i = 0 then aZ (pa i) else 1 := (hup i (Nat.le_refl _) hin).trans (hw.2.2 i (by omega) hin)
    show tk_wI pa (upd aF j 1) (tk_rf pa c (i + 1) (if Z (pa i) = 0 then Z else upd Z i 1)) n
    by_cases hz : Z (pa i) = 0
    · rw [if_pos hz]
      refine ih (i + 1) Z (by omega) (by omega) h0 h01 ?_ (fun x hx hxn => hup x (by omega) hxn) hmono
      intro x hx hxi
      by_cases hxe : x = i
      · subst hxe
        rw [hFi, hz, hZi]
        have hZp : aZ (pa x) = 0 := by
          rcases hw.2.1 (pa x) (by omega) with h1 | h1
          · exact h1
          · exact absurd (hz.symm.trans (hmono (pa x) (by omega) h1)) (by decide)
        rw [hZp]
      · exact hlow x hx (by omega)
    · rw [if_neg hz]
      have hz1 : Z (pa i) = 1 := (h01 (pa i) (by omega)).resolve_left hz
      refine ih (i + 1) (upd Z i 1) (by omega) (by omega) ?_ ?_ ?_ ?_ ?_
      · rw [pk_un (by omega)]; exact h0
      · intro x hx
        by_cases hxe : x = i
        · subst hxe; exact Or.inr pk_us
        · rw [pk_un hxe]; exact h01 x hx
      · intro x hx hxi
        by_cases hxe : x = i
        · subst hxe
          rw [pk_us, hFi, pk_un (by omega), hz1]
          split <;> rfl
        · have hpx : pa x < x := hp x hx (by omega)
          rw [pk_un hxe, pk_un (f := Z) (show pa x ≠ i by omega)]
          exact hlow x hx (by omega)
      · intro x hx hxn
        rw [pk_un (by omega)]; exact hup x (by omega) hxn
      · intro x hx hx1
        by_cases hxe : x = i
        · subst hxe; exact pk_us
        · rw [pk_un hxe]; exact hmono x hx hx1
theorem tk_rf_ok {pa : Nat → Nat} {aF aZ : Nat → Int32} {n j : Nat} (hp : ∀ i, 0 < i → i < n → pa i < i) (hw : tk_wI pa aF aZ n) (hj : 0 < j) (hjn : j < n) : tk_wI pa (upd aF j 1) (tk_rf pa (n - (j + 1)) (j + 1) (upd aZ j 1)) n := by
  refine tk_rf_go hp hw hj (n - (j + 1)) (j + 1) (upd aZ j 1) (by omega) (by omega) ?_ ?_ ?_ ?_ ?_
  · rw [pk_un (by omega)]; exact hw.1
  · intro x hx
    by_cases hxe : x = j
    · subst hxe; exact Or.inr pk_us
    · rw [pk_un hxe]; exact hw.2.1 x hx
  · intro x hx hxj
    by_cases hxe : x = j
    · subst hxe
      rw [pk_us, pk_us, if_neg (by decide)]
    · have hpx : pa x < x := hp x hx (by omega)
      rw [pk_un hxe, pk_un hxe, pk_un (by omega)]
      exact hw.2.2 x hx (by omega)
  · intro x hx hxn
    exact pk_un (by omega)
  · intro x hx hx1
    by_cases hxe : x = j
    · subst hxe; exact pk_us
    · rw [pk_un hxe]; exact hx1
/-! small rows for the walks -/
theorem tk_eq0 {k : Nat} (h : k < 2 ^ 31) : nI k = 0 ↔ k = 0 := nI_eq h (by decide)
theorem tk_nlt {x y : Int32} (h : y ≤ x) : ¬ x < y := by
  rw [Int32.le_iff_toInt_le] at h; rw [Int32.lt_iff_toInt_lt]; omega
theorem tk_ltn {x y : Int32} (h : ¬ y ≤ x) : x < y := by
  rw [Int32.le_iff_toInt_le] at h; rw [Int32.lt_iff_toInt_lt]; omega
theorem tk_isb_1 {wk : Nat → Nat} {aA : Nat → Int32} {a b : Nat} (h : wk b < wk a) : tk_isb wk aA a b = 1 := if_pos (Or.inl h)
theorem tk_isb_2 {wk : Nat → Nat} {aA : Nat → Int32} {a b : Nat} (h : wk b = wk a) (h2 : aA a < aA b) : tk_isb wk aA a b = 1 := if_pos (Or.inr ⟨h, h2⟩)
theorem tk_isb_3 {wk : Nat → Nat} {aA : Nat → Int32} {a b : Nat} (h : wk a < wk b) : tk_isb wk aA a b = 0 := if_neg (fun z => by rcases z with z | z <;> omega)
theorem tk_isb_4 {wk : Nat → Nat} {aA : Nat → Int32} {a b : Nat} (h : wk b = wk a) (h2 : ¬ aA a < aA b) : tk_isb wk aA a b = 0 := if_neg (fun z => by
  rcases z with z | z
  · omega
  · exact h2 z.2)
theorem tk_isb_0 {wk : Nat → Nat} {aA : Nat → Int32} {a b : Nat} (h : tk_isb wk aA a b = 0) : ¬ (wk b < wk a ∨ (wk b = wk a ∧ aA a < aA b)) := fun z => by
  rw [show tk_isb wk aA a b = 1 from if_pos z] at h; exact absurd h (by decide)
theorem tk_isb_ne {wk : Nat → Nat} {aA : Nat → Int32} {a b : Nat} (h : ¬ tk_isb wk aA a b = 0) : wk b < wk a ∨ (wk b = wk a ∧ aA a < aA b) := by
  by_cases z : wk b < wk a ∨ (wk b = wk a ∧ aA a < aA b)
  · exact z
  · exact absurd (if_neg z) h
theorem tk_bs_no {aZ aA : Nat → Int32} {wk : Nat → Nat} {c b f : Nat} (h : ¬ (aZ b = 0 ∧ (wk f < wk b ∨ (wk f = wk b ∧ aA b < aA f)))) : tk_bs aZ aA wk (c + 1) b f = tk_bs aZ aA wk c (b + 1) f := by
  show tk_bs aZ aA wk c (b + 1) (if aZ b = 0 ∧ (wk f < wk b ∨ (wk f = wk b ∧ aA b < aA f)) then b else f) = _
  rw [if_neg h]
theorem tk_bs_yes {aZ aA : Nat → Int32} {wk : Nat → Nat} {c b f : Nat} (h : aZ b = 0 ∧ (wk f < wk b ∨ (wk f = wk b ∧ aA b < aA f))) : tk_bs aZ aA wk (c + 1) b f = tk_bs aZ aA wk c (b + 1) b := by
  show tk_bs aZ aA wk c (b + 1) (if aZ b = 0 ∧ (wk f < wk b ∨ (wk f = wk b ∧ aA b < aA f)) then b else f) = _
  rw [if_pos h]
theorem tk_fk_t {pa : Nat → Nat} {h a b : Nat} (e : a = b) : tk_fk pa (h + 1) a b = a := by
  show (if a = b then a else tk_fk pa h (pa a) (pa b)) = a
  rw [if_pos e]
theorem tk_fk_f {pa : Nat → Nat} {h a b : Nat} (e : ¬ a = b) : tk_fk pa (h + 1) a b = tk_fk pa h (pa a) (pa b) := by
  show (if a = b then a else tk_fk pa h (pa a) (pa b)) = _
  rw [if_neg e]
/-! the public answers -/
def tk_pb (n : Nat) (b : Int32) (f : Nat → Int32) : Int32 := if tk_ex n b = 0 then -2 else f b.toNatClampNeg
theorem tk_pb0 {n : Nat} {b : Int32} {f : Nat → Int32} (h : tk_ex n b = 0) : tk_pb n b f = -2 := if_pos h
theorem tk_exn {n j : Nat} (hn : n ≤ 512) (hj : j < n) : ¬ tk_ex n (nI j) = 0 := by rw [tk_ex_n hn hj]; exact tk_10
theorem tk_pbn {n j : Nat} {f : Nat → Int32} (hn : n ≤ 512) (hj : j < n) : tk_pb n (nI j) f = f j := by
  unfold tk_pb; rw [if_neg (tk_exn hn hj), tk_cl hn hj]
def tk_an (pa he : Nat → Nat) (n : Nat) (b t : Int32) : Int32 := if tk_ex n b = 0 then -2 else if t < 0 then -2 else if t ≤ nI (he b.toNatClampNeg) then nI (tk_anc pa (he b.toNatClampNeg - t.toNatClampNeg) b.toNatClampNeg) else -2
theorem tk_an0 {pa he : Nat → Nat} {n : Nat} {b t : Int32} (h : tk_ex n b = 0) : tk_an pa he n b t = -2 := if_pos h
theorem tk_an1 {pa he : Nat → Nat} {n : Nat} {b t : Int32} (h : t < 0) : tk_an pa he n b t = -2 := by
  unfold tk_an; rw [if_pos h]; split <;> rfl
theorem tk_an2 {pa he : Nat → Nat} {n j : Nat} {t : Int32} (hn : n ≤ 512) (hj : j < n) (h : ¬ t ≤ nI (he j)) : tk_an pa he n (nI j) t = -2 := by
  unfold tk_an; rw [if_neg (tk_exn hn hj), tk_cl hn hj, if_neg h]; split <;> rfl
theorem tk_an3 {pa he : Nat → Nat} {n j t : Nat} (hn : n ≤ 512) (hj : j < n) (ht : t < 2 ^ 31) (h : t ≤ he j) (hh : he j < 2 ^ 31 := by omega) : tk_an pa he n (nI j) (nI t) = nI (tk_anc pa (he j - t) j) := by
  unfold tk_an; rw [if_neg (tk_exn hn hj), tk_cl hn hj, if_neg (nI_pos ht), if_pos ((nI_leI ht hh).mpr h), nI_clamp ht]
def tk_fr (pa he : Nat → Nat) (n : Nat) (b1 b2 : Int32) : Int32 := if tk_ex n b1 = 0 then -2 else if tk_ex n b2 = 0 then -2 else nI (tk_fork pa he b1.toNatClampNeg b2.toNatClampNeg)
theorem tk_fr0 {pa he : Nat → Nat} {n : Nat} {b1 b2 : Int32} (h : tk_ex n b1 = 0) : tk_fr pa he n b1 b2 = -2 := if_pos h
theorem tk_fr1 {pa he : Nat → Nat} {n : Nat} {b1 b2 : Int32} (h : tk_ex n b2 = 0) : tk_fr pa he n b1 b2 = -2 := by
  unfold tk_fr; rw [if_pos h]; split <;> rfl
theorem tk_fr2 {pa he : Nat → Nat} {n i j : Nat} (hn : n ≤ 512) (hi : i < n) (hj : j < n) : tk_fr pa he n (nI i) (nI j) = nI (tk_fork pa he i j) := by
  unfold tk_fr; rw [if_neg (tk_exn hn hi), if_neg (tk_exn hn hj), tk_cl hn hi, tk_cl hn hj]
def tk_lkj (aH aP aT aG aK aZ : Nat → Int32) (j : Nat) (w : Int32) : Int64 := if w = nI 0 then (aH j).toInt64 else if w = nI 1 then (aP j).toInt64 else if w = nI 2 then (aT j).toInt64 else if w = nI 3 then (aG j).toInt64 else if w = nI 4 then (aK j).toInt64 else if aZ j = 0 then 0 else 1
def tk_lk (aH aP aT aG aK aZ : Nat → Int32) (n : Nat) (b w : Int32) : Int64 := if w < 0 then -1 else if w ≤ nI 5 then (if tk_ex n b = 0 then -2 else tk_lkj aH aP aT aG aK aZ b.toNatClampNeg w) else -1
section TK2
variable {aH aP aT aG aK aZ : Nat → Int32} {n j : Nat} {b w : Int32}
theorem tk_lk_a (h : w < 0) : tk_lk aH aP aT aG aK aZ n b w = -1 := if_pos h
theorem tk_lk_b (h : ¬ w < 0) (h2 : ¬ w ≤ nI 5) : tk_lk aH aP aT aG aK aZ n b w = -1 := by unfold tk_lk; rw [if_neg h, if_neg h2]
theorem tk_lk_c (h : ¬ w < 0) (h2 : w ≤ nI 5) (h3 : tk_ex n b = 0) : tk_lk aH aP aT aG aK aZ n b w = -2 := by unfold tk_lk; rw [if_neg h, if_pos h2, if_pos h3]
theorem tk_lk_k (hn : n ≤ 512) (hj : j < n) {k : Nat} (hk : k ≤ 5) : tk_lk aH aP aT aG aK aZ n (nI j) (nI k) = tk_lkj aH aP aT aG aK aZ j (nI k) := by
  unfold tk_lk; rw [if_neg (nI_pos (by omega)), if_pos (nI_le hk (by decide)), if_neg (tk_exn hn hj), tk_cl hn hj]
theorem tk_lk_0 (hn : n ≤ 512) (hj : j < n) : tk_lk aH aP aT aG aK aZ n (nI j) (nI 0) = (aH j).toInt64 := (tk_lk_k hn hj (by decide)).trans (if_pos rfl)
theorem tk_lk_1 (hn : n ≤ 512) (hj : j < n) : tk_lk aH aP aT aG aK aZ n (nI j) (nI 1) = (aP j).toInt64 := (tk_lk_k hn hj (by decide)).trans (by unfold tk_lkj; rw [if_neg (by decide +kernel), if_pos rfl])
theorem tk_lk_2 (hn : n ≤ 512) (hj : j < n) : tk_lk aH aP aT aG aK aZ n (nI j) (nI 2) = (aT j).toInt64 := (tk_lk_k hn hj (by decide)).trans (by unfold tk_lkj; rw [if_neg (by decide +kernel), if_neg (by decide +kernel), if_pos rfl])
theorem tk_lk_3 (hn : n ≤ 512) (hj : j < n) : tk_lk aH aP aT aG aK aZ n (nI j) (nI 3) = (aG j).toInt64 := (tk_lk_k hn hj (by decide)).trans (by unfold tk_lkj; rw [if_neg (by decide +kernel), if_neg (by decide +kernel), if_neg (by decide +kernel), if_pos rfl])
theorem tk_lk_4 (hn : n ≤ 512) (hj : j < n) : tk_lk aH aP aT aG aK aZ n (nI j) (nI 4) = (aK j).toInt64 := (tk_lk_k hn hj (by decide)).trans (by unfold tk_lkj; rw [if_neg (by decide +kernel), if_neg (by decide +kernel), if_neg (by decide +kernel), if_neg (by decide +kernel), if_pos rfl])
theorem tk_lk_5 (hn : n ≤ 512) (hj : j < n) (h : aZ j = 0) : tk_lk aH aP aT aG aK aZ n (nI j) (nI 5) = 0 := (tk_lk_k hn hj (by decide)).trans (by unfold tk_lkj; rw [if_neg (by decide +kernel), if_neg (by decide +kernel), if_neg (by decide +kernel), if_neg (by decide +kernel), if_neg (by decide +kernel), if_pos h])
theorem tk_lk_6 (hn : n ≤ 512) (hj : j < n) (h : ¬ aZ j = 0) : tk_lk aH aP aT aG aK aZ n (nI j) (nI 5) = 1 := (tk_lk_k hn hj (by decide)).trans (by unfold tk_lkj; rw [if_neg (by decide +kernel), if_neg (by decide +kernel), if_neg (by decide +kernel), if_neg (by decide +kernel), if_neg (by decide +kernel), if_neg h])
end TK2
theorem tk_ins_t {tm : Int32} {k : Nat} {S : Nat → Int32} (h : tm < S k) : tk_ins tm (k + 1) S = tk_ins tm k (upd S (k + 1) (S k)) := by
  show (if tm < S k then tk_ins tm k (upd S (k + 1) (S k)) else upd S (k + 1) tm) = _
  rw [if_pos h]
theorem tk_ins_f {tm : Int32} {k : Nat} {S : Nat → Int32} (h : ¬ tm < S k) : tk_ins tm (k + 1) S = upd S (k + 1) tm := by
  show (if tm < S k then tk_ins tm k (upd S (k + 1) (S k)) else upd S (k + 1) tm) = _
  rw [if_neg h]
def tk_mb (pa he : Nat → Nat) (aT : Nat → Int32) (n : Nat) (b : Int32) (S : Nat → Int32) : Nat → Int32 := if tk_ex n b = 0 then S else tk_mS pa he aT b.toNatClampNeg S
theorem tk_mb0 {pa he : Nat → Nat} {aT S : Nat → Int32} {n : Nat} {b : Int32} (h : tk_ex n b = 0) : tk_mb pa he aT n b S = S := if_pos h
theorem tk_mbn {pa he : Nat → Nat} {aT S : Nat → Int32} {n j : Nat} (hn : n ≤ 512) (hj : j < n) : tk_mb pa he aT n (nI j) S = tk_mS pa he aT j S := by
  unfold tk_mb; rw [if_neg (tk_exn hn hj), tk_cl hn hj]
theorem tk_rf_n {pa : Nat → Nat} {c i : Nat} {Z : Nat → Int32} (h : Z (pa i) = 0) : tk_rf pa (c + 1) i Z = tk_rf pa c (i + 1) Z := by
  show tk_rf pa c (i + 1) (if Z (pa i) = 0 then Z else upd Z i 1) = _
  rw [if_pos h]
theorem tk_rf_y {pa : Nat → Nat} {c i : Nat} {Z : Nat → Int32} (h : ¬ Z (pa i) = 0) : tk_rf pa (c + 1) i Z = tk_rf pa c (i + 1) (upd Z i 1) := by
  show tk_rf pa c (i + 1) (if Z (pa i) = 0 then Z else upd Z i 1) = _
  rw [if_neg h]
theorem tk_nar {x : Int32} (h : x = 0 ∨ x = 1) : vp_nar .boolean x = x := by
  rcases h with rfl | rfl <;> decide +kernel
def tk_WL (aL : Nat → Int64) (wk : Nat → Nat) (n : Nat) : Prop := ∀ i, i < n → aL i = lN (wk i) ∧ wk i ≤ 8192 * i
theorem tk_cmp_gt {a b : Nat} (ha : a < 2 ^ 31) (hb : b < 2 ^ 31) : 0 < lg_cmp (lN a) (lN b) ↔ b < a := by
  unfold lg_cmp
  by_cases h : b < a
  · rw [if_pos ((lN_lt hb ha).mpr h)]; exact ⟨fun _ => h, fun _ => by decide⟩
  · rw [if_neg (fun z => h ((lN_lt hb ha).mp z))]
    by_cases e : lN a = lN b
    · rw [if_pos e]; exact ⟨fun z => absurd z (by decide), fun z => absurd z h⟩
    · rw [if_neg e]; exact ⟨fun z => absurd z (by decide), fun z => absurd z h⟩
theorem tk_cmp_eq {a b : Nat} (ha : a < 2 ^ 31) (hb : b < 2 ^ 31) : lg_cmp (lN a) (lN b) = 0 ↔ a = b := by
  unfold lg_cmp
  by_cases h : b < a
  · rw [if_pos ((lN_lt hb ha).mpr h)]; exact ⟨fun z => absurd z (by decide), fun z => by omega⟩
  · rw [if_neg (fun z => h ((lN_lt hb ha).mp z))]
    by_cases e : lN a = lN b
    · rw [if_pos e]; exact ⟨fun _ => (lN_eq ha hb).mp e, fun _ => rfl⟩
    · rw [if_neg e]; exact ⟨fun z => absurd z (by decide), fun z => absurd ((lN_eq ha hb).mpr z) e⟩
theorem tk_mn_or (a b : Nat) : tk_mn a b = a ∨ tk_mn a b = b := by
  unfold tk_mn; split
  · exact Or.inr rfl
  · exact Or.inl rfl
theorem tk_tb_ext {aP aH : Nat → Int32} {pa he : Nat → Nat} {aT aT' aG : Nat → Int32} {n j : Nat} (h : tk_I aP aH pa he n) (hj : j < n) (ht : ∀ i, i < n → aT' i = aT i) : tk_tb pa he aT' aG j = tk_tb pa he aT aG j := by
  unfold tk_tb
  by_cases h1 : (he j + 1) % 8 = 0
  · obtain ⟨h2, h3⟩ := tk_anc_in h 7 j hj (by omega)
    rw [if_pos h1, if_pos h1, ht j hj, ht (tk_anc pa 7 j) (by omega)]
  · rw [if_neg h1, if_neg h1]
theorem tk_I_ext {aP aH aP' aH' : Nat → Int32} {pa he : Nat → Nat} {n : Nat} (h : tk_I aP aH pa he n) (hp : ∀ i, i < n → aP' i = aP i) (hh : ∀ i, i < n → aH' i = aH i) : tk_I aP' aH' pa he n :=
  ⟨h.1, (hp 0 h.1.1).trans h.2.1, h.2.2.1, fun i hi => ⟨(hh i hi).trans (h.2.2.2.1 i hi).1, (h.2.2.2.1 i hi).2⟩, fun i h0 hi => ⟨(hp i hi).trans (h.2.2.2.2 i h0 hi).1, (h.2.2.2.2 i h0 hi).2⟩⟩
