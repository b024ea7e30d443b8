/-! what ties the class to the reference between two calls -/
def tk_inv (aP aH aT aA aG aK aZ : Nat → Int32) (aL : Nat → Int64) (aF : Nat → Int32) (pa he wk : Nat → Nat) (n : Nat) : Prop := tk_I aP aH pa he n ∧ tk_Wk aK wk n ∧ tk_WL aL wk n ∧ tk_G aG n ∧ tk_wI pa aF aZ n ∧ ∀ i, n ≤ i → aF i = 0
theorem tk_inv0 : tk_inv tk_P0 tk_0 tk_0 tk_0 tk_G0 tk_0 tk_0 (fun _ => 0) tk_0 (fun _ => 0) (fun _ => 0) (fun _ => 0) 1 := by
  refine ⟨⟨⟨by decide, by decide⟩, pk_us, rfl, ?_, ?_⟩, ?_, ?_, ?_, ⟨rfl, fun i _ => Or.inl rfl, ?_⟩, fun i _ => rfl⟩
  · intro i hi
    exact ⟨nI_0.symm, Nat.zero_le _⟩
  · intro i h0 hi; omega
  · intro i hi
    exact ⟨nI_0.symm, Nat.zero_le _⟩
  · intro i hi
    exact ⟨(by decide +kernel : (0 : Int64) = lN 0), Nat.zero_le _⟩
  · intro i hi
    obtain rfl : i = 0 := by omega
    exact ⟨32768, by decide, by decide, pk_us⟩
  · intro i h0 hi; omega
theorem tk_upn {f : Nat → Int32} {n i : Nat} {x : Int32} (h : i < n) : upd f n x i = f i := pk_un (by omega)
theorem tk_upLn {f : Nat → Int64} {n i : Nat} {x : Int64} (h : i < n) : vp_updL f n x i = f i := pk_uLn (by omega)
theorem tk_inv_add {aP aH aT aA aG aK aZ : Nat → Int32} {aL : Nat → Int64} {aF : Nat → Int32} {pa he wk : Nat → Nat} {n j g : Nat} {tm ar : Int32} (h : tk_inv aP aH aT aA aG aK aZ aL aF pa he wk n) (hj : j < n) (hn : n < 512) (hg1 : 2048 ≤ g) (hg2 : g ≤ 65535) :
    tk_inv (upd aP n (nI j)) (upd aH n (nI (he j + 1))) (upd aT n tm) (upd aA n ar) (upd aG n (nI g)) (upd aK n (nI (wk j + 16777216 / g))) (upd aZ n (aZ j)) (vp_updL aL n (lN (wk j + 16777216 / g))) aF (fun i => if i = n then j else pa i) (fun i => if i = n then he j + 1 else he i) (fun i => if i = n then wk j + 16777216 / g else wk i) (n + 1) := by
  obtain ⟨hT, hW, hL, hG, hZ, hF⟩ := h
  have hwj := (hW j hj).2
  have hhj := (hT.2.2.2.1 j hj).2
  have h1n := hT.1.1
  have hdiv : 16777216 / g ≤ 8192 := by
    have h1 : 16777216 / g ≤ 16777216 / 2048 := Nat.div_le_div_left hg1 (by decide)
    exact Nat.le_trans h1 (by decide)
  refine ⟨⟨⟨by omega, by omega⟩, ?_, ?_, ?_, ?_⟩, ?_, ?_, ?_, ⟨?_, ?_, ?_⟩, ?_⟩
  · rw [tk_upn (by omega)]; exact hT.2.1
  · show (if 0 = n then he j + 1 else he 0) = 0
    rw [if_neg (by omega)]; exact hT.2.2.1
  · intro i hi
    by_cases e : i = n
    · subst e
      refine ⟨?_, ?_⟩
      · rw [pk_us]; show nI (he j + 1) = nI (if i = i then he j + 1 else he i); rw [if_pos rfl]
      · show (if i = i then he j + 1 else he i) ≤ i; rw [if_pos rfl]; omega
    · refine ⟨?_, ?_⟩
      · rw [tk_upn (by omega)]; show aH i = nI (if i = n then he j + 1 else he i); rw [if_neg e]; exact (hT.2.2.2.1 i (by omega)).1
      · show (if i = n then he j + 1 else he i) ≤ i; rw [if_neg e]; exact (hT.2.2.2.1 i (by omega)).2
  · intro i h0 hi
    by_cases e : i = n
    · subst e
      refine ⟨?_, ?_, ?_⟩
      · rw [pk_us]; show nI j = nI (if i = i then j else pa i); rw [if_pos rfl]
      · show (if i = i then j else pa i) < i; rw [if_pos rfl]; exact hj
      · show (if i = i then he j + 1 else he i) = (if (if i = i then j else pa i) = i then he j + 1 else he (if i = i then j else pa i)) + 1
        rw [if_pos rfl, if_pos rfl, if_neg (by omega)]
    · obtain ⟨u2, u3, u4⟩ := hT.2.2.2.2 i h0 (by omega)
      refine ⟨?_, ?_, ?_⟩
      · rw [tk_upn (by omega)]; show aP i = nI (if i = n then j else pa i); rw [if_neg e]; exact u2
      · show (if i = n then j else pa i) < i; rw [if_neg e]; exact u3
      · show (if i = n then he j + 1 else he i) = (if (if i = n then j else pa i) = n then he j + 1 else he (if i = n then j else pa i)) + 1
        rw [if_neg e, if_neg e, if_neg (by omega)]; exact u4
  · intro i hi
    by_cases e : i = n
    · subst e
      refine ⟨?_, ?_⟩
      · rw [pk_us]; show nI (wk j + 16777216 / g) = nI (if i = i then wk j + 16777216 / g else wk i); rw [if_pos rfl]
      · show (if i = i then wk j + 16777216 / g else wk i) ≤ 8192 * i; rw [if_pos rfl]; omega
    · refine ⟨?_, ?_⟩
      · rw [tk_upn (by omega)]; show aK i = nI (if i = n then wk j + 16777216 / g else wk i); rw [if_neg e]; exact (hW i (by omega)).1
      · show (if i = n then wk j + 16777216 / g else wk i) ≤ 8192 * i; rw [if_neg e]; exact (hW i (by omega)).2
  · intro i hi
    by_cases e : i = n
    · subst e
      refine ⟨?_, ?_⟩
      · rw [pk_uLs]; show lN (wk j + 16777216 / g) = lN (if i = i then wk j + 16777216 / g else wk i); rw [if_pos rfl]
      · show (if i = i then wk j + 16777216 / g else wk i) ≤ 8192 * i; rw [if_pos rfl]; omega
    · refine ⟨?_, ?_⟩
      · rw [tk_upLn (by omega)]; show aL i = lN (if i = n then wk j + 16777216 / g else wk i); rw [if_neg e]; exact (hL i (by omega)).1
      · show (if i = n then wk j + 16777216 / g else wk i) ≤ 8192 * i; rw [if_neg e]; exact (hL i (by omega)).2
  · intro i hi
    by_cases e : i = n
    · subst e; exact ⟨g, hg1, hg2, pk_us⟩
    · rw [tk_upn (by omega)]; exact hG i (by omega)
  · rw [tk_upn (by omega)]; exact hZ.1
  · intro i hi
    by_cases e : i = n
    · subst e; rw [pk_us]; exact hZ.2.1 j hj
    · rw [tk_upn (by omega)]; exact hZ.2.1 i (by omega)
  · intro i h0 hi
    by_cases e : i = n
    · subst e
      show upd aZ i (aZ j) i = if aF i = 0 then upd aZ i (aZ j) (if i = i then j else pa i) else 1
      rw [pk_us, if_pos (hF i (Nat.le_refl _)), if_pos rfl, tk_upn hj]
    · obtain ⟨u2, u3, u4⟩ := hT.2.2.2.2 i h0 (by omega)
      show upd aZ n (aZ j) i = if aF i = 0 then upd aZ n (aZ j) (if i = n then j else pa i) else 1
      rw [if_neg e, tk_upn (by omega), tk_upn (by omega)]; exact hZ.2.2 i h0 (by omega)
  · intro i hi; exact hF i (by omega)
theorem tk_inv_rf {aP aH aT aA aG aK aZ : Nat → Int32} {aL : Nat → Int64} {aF : Nat → Int32} {pa he wk : Nat → Nat} {n j : Nat} (h : tk_inv aP aH aT aA aG aK aZ aL aF pa he wk n) (hj0 : 0 < j) (hj : j < n) :
    tk_inv aP aH aT aA aG aK (tk_rf pa (n - (j + 1)) (j + 1) (upd aZ j 1)) aL (upd aF j 1) pa he wk n := by
  obtain ⟨hT, hW, hL, hG, hZ, hF⟩ := h
  exact ⟨hT, hW, hL, hG, tk_rf_ok (fun i h1 h2 => (hT.2.2.2.2 i h1 h2).2.1) hZ hj0 hj, fun i hi => by rw [pk_un (by omega)]; exact hF i hi⟩
theorem tk_sld {p : Program} {l : Launch} {e : Env} {R : Room} {s : State} {m : MethodId} {args : Array Value} {below : List Frame} {meth : Method} {c : Code} {H : Heap} {locs : List Loc} {cells slots : Nat} {Q : State → Prop} {cc : ByteArray} {pc : Nat} {ls : Array Slot} {rest : List Value} {A : Nat → Prop} {H0 : Heap} {b L : Nat} {xs : Nat → Int32} (hx : p.tables.exec = Jvm.exec) (hb : c.code = cc) (hX : va_X b L xs s H0) (hbl : b < H0.size) (hbA : ¬ A b) (hS : va_S A H0 H locs) (k : Nat) (hk : k < L) (hL : L < 2 ^ 31) (hdg : decode cc pc = .ok (.iaload, 1))
    (kk : W p l e R s m args below meth c H locs cells slots Q (F0 m (pc + 1) ls (.int (xs k) :: rest))) : W p l e R s m args below meth c H locs cells slots Q (F0 m pc ls (.int (nI k) :: .ref b :: rest)) := by
  refine va_sld hx hb hX hbl hbA hS (vp_in_nI hk hL) hdg ?_
  rw [nI_clamp (Nat.lt_trans hk hL)]; exact kk
theorem tk_inc4 (n : Nat) : nI n + Int32.ofInt 4 = nI (n + 4) := by
  rw [show Int32.ofInt 4 = nI 4 from by decide +kernel]; exact nI_add n 4
theorem tk_cmp_same {x y : Int64} (h : x = y) : lg_cmp x y = 0 := by
  subst h; simp [lg_cmp]
