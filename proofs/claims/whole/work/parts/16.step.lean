def tk_step (o : Nat) (q : Nat → Nat) (ca : Nat → ClassId) (o1 : Nat) (q1 : Nat → Nat) (cb : Nat → ClassId) (r0 r1 : Int32) (u0 u1 : va_W) : Prop := r0 = r1 ∧ ∃ (aP aH aT aA aG aK aZ aS : Nat → Int32) (aL : Nat → Int64) (aF : Nat → Int32) (n : Nat) (pa he wk : Nat → Nat), tk_inv aP aH aT aA aG aK aZ aL aF pa he wk n ∧ u0 = tk_w0 o q ca aP aH aT aA aG aK aZ aS n ∧ u1 = tk_w1 o1 q1 cb aP aH aT aG aL aA aF aS n
theorem tk_st_md {o o1 : Nat} {q q1 : Nat → Nat} {ca cb : Nat → ClassId} {aP aH aT aA aG aK aZ aS : Nat → Int32} {aL : Nat → Int64} {aF : Nat → Int32} {n : Nat} {pa he wk : Nat → Nat} {r0 r1 : Int32} {u0 u1 : va_W} {b : Int32} (h : tk_inv aP aH aT aA aG aK aZ aL aF pa he wk n) (h0 : (fun (r : Int32) (u : va_W) => r = tk_pb n b (fun j => tk_med pa he aT j aS) ∧ u = tk_w0 o q ca aP aH aT aA aG aK aZ (tk_mb pa he aT n b aS) n) r0 u0) (h1 : (fun (r : Int32) (u : va_W) => r = tk_pb n b (fun j => tk_med pa he aT j aS) ∧ u = tk_w1 o1 q1 cb aP aH aT aG aL aA aF (tk_mb pa he aT n b aS) n) r1 u1) : tk_step o q ca o1 q1 cb r0 r1 u0 u1 := by
  obtain ⟨e0, w0⟩ := h0
  obtain ⟨e1, w1⟩ := h1
  exact ⟨e0.trans e1.symm, aP, aH, aT, aA, aG, aK, aZ, _, aL, aF, n, pa, he, wk, h, w0, w1⟩
theorem tk_st_rf {o o1 : Nat} {q q1 : Nat → Nat} {ca cb : Nat → ClassId} {aP aH aT aA aG aK aZ aS : Nat → Int32} {aL : Nat → Int64} {aF : Nat → Int32} {n : Nat} {pa he wk : Nat → Nat} {r0 r1 : Int32} {u0 u1 : va_W} {b : Int32} (h : tk_inv aP aH aT aA aG aK aZ aL aF pa he wk n) (h0 : (fun (r : Int32) (u : va_W) => ((tk_ex n b = 0 ∨ b = 0) ∧ r = -1 ∧ u = tk_w0 o q ca aP aH aT aA aG aK aZ aS n) ∨ (∃ j, 0 < j ∧ j < n ∧ b = nI j ∧ r = nI (tk_best (tk_rf pa (n - (j + 1)) (j + 1) (upd aZ j 1)) aA wk n) ∧ u = tk_w0 o q ca aP aH aT aA aG aK (tk_rf pa (n - (j + 1)) (j + 1) (upd aZ j 1)) aS n)) r0 u0) (h1 : (fun (r : Int32) (u : va_W) => ((tk_ex n b = 0 ∨ b = 0) ∧ r = -1 ∧ u = tk_w1 o1 q1 cb aP aH aT aG aL aA aF aS n) ∨ (∃ j, 0 < j ∧ j < n ∧ b = nI j ∧ r = nI (tk_best (tk_rf pa (n - (j + 1)) (j + 1) (upd aZ j 1)) aA wk n) ∧ u = tk_w1 o1 q1 cb aP aH aT aG aL aA (upd aF j 1) aS n)) r1 u1) : tk_step o q ca o1 q1 cb r0 r1 u0 u1 := by
  have hn := h.1.1.2
  rcases h0 with ⟨x0, e0, w0⟩ | ⟨j, hj0, hj, ej, e0, w0⟩
  · rcases h1 with ⟨x1, e1, w1⟩ | ⟨k, hk0, hk, ek, e1, w1⟩
    · exact ⟨e0.trans e1.symm, aP, aH, aT, aA, aG, aK, aZ, aS, aL, aF, n, pa, he, wk, h, w0, w1⟩
    · exfalso
      subst ek
      rcases x0 with x0 | x0
      · exact tk_exn hn hk x0
      · have := (tk_eq0 (by omega)).mp x0; omega
  · rcases h1 with ⟨x1, e1, w1⟩ | ⟨k, hk0, hk, ek, e1, w1⟩
    · exfalso
      subst ej
      rcases x1 with x1 | x1
      · exact tk_exn hn hj x1
      · have := (tk_eq0 (by omega)).mp x1; omega
    · have hjk : j = k := (nI_eq (by omega) (by omega)).mp (ej.symm.trans ek)
      subst hjk
      exact ⟨e0.trans e1.symm, aP, aH, aT, aA, aG, aK, _, aS, aL, _, n, pa, he, wk, tk_inv_rf h hj0 hj, w0, w1⟩
theorem tk_st_add {o o1 : Nat} {q q1 : Nat → Nat} {ca cb : Nat → ClassId} {aP aH aT aA aG aK aZ aS : Nat → Int32} {aL : Nat → Int64} {aF : Nat → Int32} {n : Nat} {pa he wk : Nat → Nat} {r0 r1 : Int32} {u0 u1 : va_W} {b tm ar : Int32} (h : tk_inv aP aH aT aA aG aK aZ aL aF pa he wk n) (h0 : (fun (r : Int32) (u : va_W) => (tk_ex n b = 0 ∧ r = -1 ∧ u = tk_w0 o q ca aP aH aT aA aG aK aZ aS n) ∨ (∃ j, j < n ∧ b = nI j ∧ (((tm ≤ tk_med pa he aT j aS ∨ ¬ 0 ≤ ar) ∧ r = -1 ∧ u = tk_w0 o q ca aP aH aT aA aG aK aZ (tk_mS pa he aT j aS) n) ∨ ((¬ tm ≤ tk_med pa he aT j aS ∧ 0 ≤ ar) ∧ ((n = 512 ∧ r = -3 ∧ u = tk_w0 o q ca aP aH aT aA aG aK aZ (tk_mS pa he aT j aS) n) ∨ (n < 512 ∧ r = nI n ∧ ∃ g, 2048 ≤ g ∧ g ≤ 65535 ∧ tk_tb pa he aT aG j = nI g ∧ u = tk_w0 o q ca (upd aP n (nI j)) (upd aH n (nI (he j + 1))) (upd aT n tm) (upd aA n ar) (upd aG n (nI g)) (upd aK n (nI (wk j + 16777216 / g))) (upd aZ n (aZ j)) (tk_mS pa he aT j aS) (n + 1))))))) r0 u0) (h1 : (fun (r : Int32) (u : va_W) => (tk_ex n b = 0 ∧ r = -1 ∧ u = tk_w1 o1 q1 cb aP aH aT aG aL aA aF aS n) ∨ (∃ j, j < n ∧ b = nI j ∧ (((tm ≤ tk_med pa he aT j aS ∨ ¬ 0 ≤ ar) ∧ r = -1 ∧ u = tk_w1 o1 q1 cb aP aH aT aG aL aA aF (tk_mS pa he aT j aS) n) ∨ ((¬ tm ≤ tk_med pa he aT j aS ∧ 0 ≤ ar) ∧ ((n = 512 ∧ r = -3 ∧ u = tk_w1 o1 q1 cb aP aH aT aG aL aA aF (tk_mS pa he aT j aS) n) ∨ (n < 512 ∧ r = nI n ∧ ∃ g, 2048 ≤ g ∧ g ≤ 65535 ∧ tk_tb pa he aT aG j = nI g ∧ u = tk_w1 o1 q1 cb (upd aP n (nI j)) (upd aH n (nI (he j + 1))) (upd aT n tm) (upd aG n (nI g)) (vp_updL aL n (lN (wk j + 16777216 / g))) (upd aA n ar) aF (tk_mS pa he aT j aS) (n + 1))))))) r1 u1) : tk_step o q ca o1 q1 cb r0 r1 u0 u1 := by
  have hn := h.1.1.2
  rcases h0 with ⟨x0, e0, w0⟩ | ⟨j, hj, ej, h0⟩
  · rcases h1 with ⟨x1, e1, w1⟩ | ⟨k, hk, ek, h1⟩
    · exact ⟨e0.trans e1.symm, aP, aH, aT, aA, aG, aK, aZ, aS, aL, aF, n, pa, he, wk, h, w0, w1⟩
    · exfalso
      subst ek
      exact tk_exn hn hk x0
  · rcases h1 with ⟨x1, e1, w1⟩ | ⟨k, hk, ek, h1⟩
    · exfalso
      subst ej
      exact tk_exn hn hj x1
    · have hjk : j = k := (nI_eq (by omega) (by omega)).mp (ej.symm.trans ek)
      subst hjk
      rcases h0 with ⟨c0, e0, w0⟩ | ⟨⟨c0, d0⟩, h0⟩
      · rcases h1 with ⟨c1, e1, w1⟩ | ⟨⟨c1, d1⟩, h1⟩
        · exact ⟨e0.trans e1.symm, aP, aH, aT, aA, aG, aK, aZ, _, aL, aF, n, pa, he, wk, h, w0, w1⟩
        · exfalso
          rcases c0 with c0 | c0
          · exact c1 c0
          · exact c0 d1
      · rcases h1 with ⟨c1, e1, w1⟩ | ⟨⟨c1, d1⟩, h1⟩
        · exfalso
          rcases c1 with c1 | c1
          · exact c0 c1
          · exact c1 d0
        · rcases h0 with ⟨n0, e0, w0⟩ | ⟨n0, e0, g, g1, g2, g3, w0⟩
          · rcases h1 with ⟨n1, e1, w1⟩ | ⟨n1, e1, k, k1, k2, k3, w1⟩
            · exact ⟨e0.trans e1.symm, aP, aH, aT, aA, aG, aK, aZ, _, aL, aF, n, pa, he, wk, h, w0, w1⟩
            · omega
          · rcases h1 with ⟨n1, e1, w1⟩ | ⟨n1, e1, k, k1, k2, k3, w1⟩
            · omega
            · have hgk : g = k := (nI_eq (by omega) (by omega)).mp (g3.symm.trans k3)
              subst hgk
              exact ⟨e0.trans e1.symm, _, _, _, _, _, _, _, _, _, _, _, _, _, _, tk_inv_add h hj n0 g1 g2, w0, w1⟩
