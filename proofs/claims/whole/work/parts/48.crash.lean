/-! crash -/
section CR
variable {K C T : Nat} {le : Int32} {t : Nat} {z w : St}
theorem ps_val {n ap : Nat} (hap : ap ≤ 160) (b : ∀ j, j < ap → ∃ d, g_A w 17 j = nI d ∧ j ≤ d ∧ d < n ∧ (g_A w 0 d = 3 ∨ g_A w 0 d = 6)) : ps (g_A w 17) ap = -1 ∨ ∃ f, f < n ∧ ps (g_A w 17) ap = nI f := by
  unfold ps
  rcases Nat.eq_zero_or_pos ap with h | h
  · rw [if_pos h]; exact Or.inl rfl
  · rw [if_neg (by omega)]
    obtain ⟨d, d1, -, d3, -⟩ := b (ap - 1) (by omega)
    exact Or.inr ⟨d, d3, d1⟩
theorem o_crash (hK : K ≤ 12) (hC6 : C ≤ 6) (ht : t < 512) (x1 : Int32) (h : J K C T le t z w) : w_X0_crash K x1 z (fun r u => w_M0_crash K x1 w (fun r' u' => r = r' ∧ J K C T le (t + 1) u u')) := by
  have hJ := J_up h
  obtain ⟨n, o, bg, q, pl, nx, cz, ep, ph, lw, cut, hg, ap, hC, hS, hL, hP, hH, hW, hKK⟩ := h
  have hS0 := hS
  obtain ⟨⟨a1, a2, a3, a4, a5, a6⟩, ⟨b1, b2, b3⟩, s1, s2, s3, s4, s5, s6⟩ := hS0
  unfold w_X0_crash
  refine ⟨fun h0 => ?_, fun h0 => ⟨fun h1 => ?_, fun h1 => ⟨fun h2 => ?_, fun h2 => ?_⟩⟩⟩
  · subst h0
    unfold w_X1_abortAll
    rw [a3]
    refine ⟨_, x_abortAll_5 hK o n z a1 a3 b1 (by omega) (fun z' hF => ?_)⟩
    unfold w_M0_crash
    refine ⟨fun h => absurd h (by decide), fun _ => ⟨fun _ => ⟨fun h => absurd rfl h, fun _ => ⟨_, m_crash_17 4 o n 0 w (by omega) b1 a2 a4 (by omega) s2 (fun w' hE => ⟨rfl, ?_⟩)⟩⟩, fun h => absurd (show (0 : Int32) ≤ 2 by decide) h⟩⟩
    exact J_up (J_endN hK o n z w z' w' hC hS hL hP hH hW hKK hF hE)
  · subst h1
    obtain ⟨⟨k1, k2, k3⟩, kd, kr, kp, ⟨ks1, ks2⟩⟩ := hKK
    obtain ⟨c1, c2, c3, c4, c5, c6, c7, c8, c9, c10⟩ := hC
    obtain ⟨⟨g1, g2, g3⟩, ⟨e1, e2, e3⟩, hpk⟩ := hH
    obtain ⟨⟨p1, p2, p3⟩, pq, po, ptm, ⟨pf1, pf2⟩, plast, ⟨pp1, pp2, pp3⟩, ⟨pn1, pn2, pn3⟩⟩ := hP
    unfold w_X4_forgetStaged w_X2_startEpoch w_X3_restart w_X6_stop
    unfold w_M0_crash
    refine ⟨fun h => absurd h (by decide), fun _ => ⟨fun _ => ⟨fun _ => ⟨fun h => absurd rfl h, fun _ => ?_⟩, fun h => absurd h (by decide)⟩, fun h => absurd (show (1 : Int32) ≤ 2 by decide) h⟩⟩
    refine m_position (ap := ap) k1 k2 ?_
    refine m_progress (ap := ap) (C := C) (Kn := K) k1 k2 c5 hC6 c2 hK (fun j hj => by obtain ⟨d, d1, -, d3, -⟩ := kd j hj; exact ⟨d, d1, by omega⟩) ⟨rfl, ?_⟩
    have hps := ps_val (w := w) k2 kd
    refine ⟨n, o, bg, 0, 0, min (hc_ (g_A w 0) (g_A w 17) C ap) K, cz, ep + 1, 0, 0, 0, 0, ap, ⟨c1, c2, c3, c4, c5, c6, c7, c8, c9, c10⟩, hS, hL, ⟨⟨rfl, rfl, by omega⟩, fun i hi => by omega, fun i j p p' hij hj => by omega, ptm, ⟨k3, hps⟩, k3, ⟨rfl, rfl, by omega⟩, ⟨kp, rfl, by omega⟩⟩, ⟨⟨g1, g2, g3⟩, ⟨?_, ?_, by omega⟩, fun i hi => ?_⟩, ⟨⟨rfl, rfl, by omega⟩, fun h => by omega, fun h => by omega, fun h => by omega⟩, ⟨k1, k2, k3⟩, kd, kr, kp, rfl, Or.inl rfl⟩
    · show g_I z 4 + 1 = nI (ep + 1)
      rw [e1, nI_1]
    · show g_I w 7 + 1 = nI (ep + 1)
      rw [e2, nI_1]
    · obtain ⟨q1, ⟨e, q2, q3⟩, -⟩ := hpk i hi
      refine ⟨q1, ⟨e, by omega, q3⟩, fun hh => ?_⟩
      have hh' : g_A w 14 i = nI (ep + 1) := hh
      rw [q3, nI_eq (by omega) (by omega)] at hh'
      omega
  · subst h2
    obtain ⟨⟨k1, k2, k3⟩, kd, kr, kp, ⟨ks1, ks2⟩⟩ := hKK
    obtain ⟨g0, ⟨e1, e2, e3⟩, hpk⟩ := hH
    unfold w_X4_forgetStaged w_M0_crash
    refine ⟨fun h => absurd h (by decide), fun _ => ⟨fun _ => ⟨fun _ => ⟨fun _ => ⟨rfl, ?_⟩, fun h => absurd h (by decide)⟩, fun h => absurd h (by decide)⟩, fun h => absurd (show (2 : Int32) ≤ 2 by decide) h⟩⟩
    exact ⟨n, o, bg, q, pl, nx, cz, ep, ph, lw, cut, hg, ap, hC, hS, hL, hP, ⟨g0, ⟨e1, e2, by omega⟩, hpk⟩, hW, ⟨k1, k2, k3⟩, kd, kr, kp, rfl, Or.inl rfl⟩
  · unfold w_M0_crash
    refine ⟨fun _ => ⟨rfl, hJ⟩, fun c1 => ⟨fun c2 => ?_, fun _ => ⟨rfl, hJ⟩⟩⟩
    exfalso
    obtain ⟨j, hj, rfl⟩ := nI_of c1
    have hj2 : j ≤ 2 := by
      rw [Int32.le_iff_toInt_le, nI_toInt hj] at c2
      have e2 : (2 : Int32).toInt = 2 := by decide
      omega
    rcases (show j = 0 ∨ j = 1 ∨ j = 2 by omega) with rfl | rfl | rfl
    · exact h0 rfl
    · exact h1 rfl
    · exact h2 rfl
end CR
