/-! step -/
section ST
variable {K C T : Nat} {le : Int32} {t n o bg q pl nx cz ep ph lw cut hg ap : Nat} {z w : St}
-- one turn of the reference's loop
theorem m_next {Q : Int32 → St → Prop} {n9 : Nat} {v1 v2 : Int32} (hv : ¬ v1 ≤ v2) (h4 : g_I w 4 = nI n) (h10 : g_I w 10 = nI pl) (hpl : pl < n) (hn : n ≤ 160) (h6 : g_A w 0 pl = 6 → g_I w 12 = 3 → ¬ g_I w 10 = g_I w 15) (h3 : g_A w 0 pl = 3 → g_I w 10 ≤ g_I w 8) (hQ : w_M0_step_17 K Q n9 v1 (v2 + 1) 0 (s_I w 10 (nI (pl + 1)))) : w_M0_step_17 K Q (n9 + 1) v1 v2 0 w := by
  unfold w_M0_step_17
  have hin : vp_in (nI pl) 160 := vp_in_nI (by omega) (by omega)
  have hlt : ¬ g_I w 4 ≤ nI pl := by rw [h4]; exact nI_ge hpl (by omega)
  rw [h10] at h6 h3 ⊢
  rw [nI_clamp (by omega), nI_1]
  have chain : vp_in (nI pl) 160 ∧ ((¬ g_A w 0 pl = 3 → w_M0_step_17 K Q n9 v1 (v2 + 1) 0 (s_I w 10 (nI (pl + 1)))) ∧ (g_A w 0 pl = 3 → ((nI pl ≤ g_I w 8 → w_M0_step_17 K Q n9 v1 (v2 + 1) 0 (s_I w 10 (nI (pl + 1)))) ∧ (¬ nI pl ≤ g_I w 8 → ((g_I w 16 < 4 → w_M0_emit K (nI pl) w (fun r1 u2 => w_M0_step_17 K Q n9 v1 (v2 + 1) 0 (s_I u2 10 (g_I u2 10 + 1)))) ∧ (¬ g_I w 16 < 4 → w_M0_step_17 K Q n9 v1 v2 1 w)))))) := ⟨hin, fun _ => hQ, fun h => ⟨fun _ => hQ, fun h2 => absurd (h3 h) h2⟩⟩
  exact ⟨fun h => absurd h hv, fun _ => ⟨fun h => absurd h hlt, fun _ => ⟨fun h => absurd rfl h, fun _ => ⟨hin, fun _ => chain, fun h => ⟨fun _ => chain, fun h2 => ⟨fun _ => chain, fun h3 => absurd h3 (h6 h h2)⟩⟩⟩⟩⟩⟩
theorem m_commit {Q : Int32 → St → Prop} {n9 : Nat} {v1 v2 : Int32} (hv : ¬ v1 ≤ v2) (h4 : g_I w 4 = nI n) (h10 : g_I w 10 = nI pl) (hpl : pl < n) (hn : n ≤ 160) (h3 : g_A w 0 pl = 3) (h8 : ¬ g_I w 10 ≤ g_I w 8) (hy : g_I w 16 < 4 → w_M0_emit K (nI pl) w (fun r1 u2 => w_M0_step_17 K Q n9 v1 (v2 + 1) 0 (s_I u2 10 (g_I u2 10 + 1)))) (hn4 : ¬ g_I w 16 < 4 → w_M0_step_17 K Q n9 v1 v2 1 w) : w_M0_step_17 K Q (n9 + 1) v1 v2 0 w := by
  unfold w_M0_step_17
  have hin : vp_in (nI pl) 160 := vp_in_nI (by omega) (by omega)
  have hlt : ¬ g_I w 4 ≤ nI pl := by rw [h4]; exact nI_ge hpl (by omega)
  rw [h10] at h8 ⊢
  rw [nI_clamp (by omega)]
  have n6 : ¬ g_A w 0 pl = 6 := by rw [h3]; decide
  exact ⟨fun h => absurd h hv, fun _ => ⟨fun h => absurd h hlt, fun _ => ⟨fun h => absurd rfl h, fun _ => ⟨hin, fun _ => ⟨hin, fun h => absurd h3 h, fun _ => ⟨fun h => absurd h h8, fun _ => ⟨hy, hn4⟩⟩⟩, fun h => absurd h n6⟩⟩⟩⟩
theorem m_high {Q : Int32 → St → Prop} {n9 : Nat} {v1 v2 : Int32} (hv : ¬ v1 ≤ v2) (h4 : g_I w 4 = nI n) (h10 : g_I w 10 = nI pl) (hpl : pl < n) (hn : n ≤ 160) (h6 : g_A w 0 pl = 6) (h12 : g_I w 12 = 3) (h15 : g_I w 10 = g_I w 15) (hy : g_I w 16 < 4 → w_M0_emit K (nI pl) w (fun r7 u8 => w_M0_step_17 K Q n9 v1 (v2 + 1) 0 (s_I (s_I (s_I u8 12 0) 11 (g_I u8 11 + g_I u8 1)) 10 (g_I u8 10 + 1)))) (hn4 : ¬ g_I w 16 < 4 → w_M0_step_17 K Q n9 v1 v2 1 w) : w_M0_step_17 K Q (n9 + 1) v1 v2 0 w := by
  unfold w_M0_step_17
  have hin : vp_in (nI pl) 160 := vp_in_nI (by omega) (by omega)
  have hlt : ¬ g_I w 4 ≤ nI pl := by rw [h4]; exact nI_ge hpl (by omega)
  rw [h10] at h15 ⊢
  rw [nI_clamp (by omega)]
  exact ⟨fun h => absurd h hv, fun _ => ⟨fun h => absurd h hlt, fun _ => ⟨fun h => absurd rfl h, fun _ => ⟨hin, fun h => absurd h6 h, fun _ => ⟨fun h => absurd h12 h, fun _ => ⟨fun h => absurd h15 h, fun _ => ⟨hy, hn4⟩⟩⟩⟩⟩⟩⟩
theorem m_stuck {Q : Int32 → St → Prop} {n9 : Nat} {v1 v2 : Int32} (h4 : g_I w 4 = nI n) (h10 : g_I w 10 = nI pl) (hQ : Q v2 w) : w_M0_step_17 K Q (n9 + 1) v1 v2 1 w := by
  unfold w_M0_step_17
  exact ⟨fun _ => hQ, fun _ => ⟨fun _ => hQ, fun _ => ⟨fun _ => hQ, fun h => absurd h (by decide)⟩⟩⟩
theorem k13 (hL : RL K n bg z w) {i : Nat} (hi : i < n) : g_A z 6 i = 1 ↔ g_A w 0 i = 3 := by
  obtain ⟨-, r⟩ := hL i hi
  rcases r with ⟨r1, -, -, -, ⟨r2, -⟩ | ⟨r2, -⟩⟩ | ⟨r1, r2⟩ | ⟨r1, r2⟩ | ⟨r1, r2⟩ | ⟨r1, r2, -⟩ <;> rw [r1, r2] <;> decide
theorem sk_succ {w : St} {k : Int32} {a p : Nat} : skw w k a (p + 1) = ((decide (a < p) && decide (g_A w 0 p = 3) && (lbw w (g_A w 1 p) k p).isSome) || skw w k a p) := rfl
/-- an event's borne rows stay when the next chunk's are set -/
theorem ev_bear {f : Nat → Int64} {p : Nat} (hC1 : 1 ≤ C) (hf : ∀ i, i < nx → f i = g_L z 2 i) (h : EV K C nx n z w p) : EV K C (nx + C) n (s_I (s_I (s_G z 2 f) 20 0) 13 (nI (nx + C))) (s_I (s_I w 12 0) 11 (nI (nx + C))) p := by
  obtain ⟨h1, h2⟩ := h
  refine ⟨h1, ?_⟩
  rcases h2 with h2 | ⟨h2, a, lo, cu, hb, e1, e2, e3, e4, e5⟩
  · exact Or.inl h2
  · refine Or.inr ⟨h2, a, lo, cu, hb, e1, e2, e3, by omega, fun k k1 k2 k3 => ?_⟩
    show f k = _
    rw [hf k (by omega)]
    exact e5 k k1 k2 k3
/-- one entry read by both, or both stuck -/
theorem p_read (hK : K ≤ 12) (hC6 : C ≤ 6) (hC1 : 1 ≤ C) (h : JP K C T le t n o bg q pl nx cz ep ph lw cut hg ap z w) (hpl : pl < n) :
    ((∀ Q : Int32 → St → Prop, Q 0 z → w_X3_readEntry K z Q) ∧ (∀ (Q : Int32 → St → Prop) (n9 : Nat) (v1 v2 : Int32), ¬ v1 ≤ v2 → Q v2 w → w_M0_step_17 K Q (n9 + 2) v1 v2 0 w)) ∨
    (∃ z' w' : St, J K C T le t z' w' ∧ (∀ Q : Int32 → St → Prop, Q 1 z' → w_X3_readEntry K z Q) ∧ (∀ (Q : Int32 → St → Prop) (n9 : Nat) (v1 v2 : Int32), ¬ v1 ≤ v2 → w_M0_step_17 K Q n9 v1 (v2 + 1) 0 w' → w_M0_step_17 K Q (n9 + 1) v1 v2 0 w)) := by
  obtain ⟨hC, hS, hL, hP, hH, hW, hKK⟩ := h
  have hS0 := hS
  obtain ⟨⟨a1, a2, -⟩, ⟨b1, b2, b3⟩, -⟩ := hS0
  have hn : n ≤ 160 := by omega
  have hC0 := hC
  obtain ⟨c1, c2, c3, c4, c5, c6, c7, c8, c9, c10⟩ := hC0
  have hP0 := hP
  obtain ⟨⟨p1, p2, p3⟩, pq, po, ptm, ⟨pf1, pf2⟩, plast, ⟨pp1, pp2, pp3⟩, ⟨pn1, pn2, pn3⟩⟩ := hP0
  have hH0 := hH
  obtain ⟨⟨g1, g2, g3⟩, ⟨e1, e2, e3⟩, -⟩ := hH0
  have hW0 := hW
  obtain ⟨⟨w1, w2, w3⟩, wl, wc, wh⟩ := hW0
  have hin : vp_in (nI pl) 160 := vp_in_nI (by omega) (by omega)
  have hk := k13 hL hpl
  have hlt : g_I z 12 < g_I z 19 := by rw [pp1, a1]; exact nI_lt hpl (by omega)
  have hq4 : g_I z 8 < 4 ↔ q < 4 := by rw [p1]; exact nI_ltI (b := 4) (by omega) (by omega)
  have hq4' : g_I w 16 < 4 ↔ q < 4 := by rw [p2]; exact nI_ltI (b := 4) (by omega) (by omega)
  -- what readEntry asks first
  have xtop : ∀ (Q : Int32 → St → Prop) (b : Bool), (g_A z 6 pl = 1 → ((b = true ↔ ¬ nI pl ≤ g_I z 10))) → (¬ g_A z 6 pl = 1 → (b = true ↔ (g_I z 20 = 3 ∧ g_I z 22 = nI pl))) → (b = false → Q 1 (s_I z 12 (nI (pl + 1)))) → (b = true → ((q < 4 → w_X3_readEvent K z (fun r3 u4 => Q 1 (s_I u4 12 (g_I u4 12 + 1)))) ∧ (¬ q < 4 → Q 0 z))) → w_X3_readEntry K z Q := by
    intro Q b hb1 hb2 hf ht
    have fin0 : b = false → ((0 : Int32) = 0 → Q 1 (s_I z 12 (g_I z 12 + 1))) ∧ (¬ (0 : Int32) = 0 → ((g_I z 8 < 4 → w_X3_readEvent K z (fun r3 u4 => Q 1 (s_I u4 12 (g_I u4 12 + 1)))) ∧ (¬ g_I z 8 < 4 → Q 0 z))) := fun hb => ⟨fun _ => by rw [pp1, nI_1]; exact hf hb, fun h => absurd rfl h⟩
    have fin1 : b = true → ((1 : Int32) = 0 → Q 1 (s_I z 12 (g_I z 12 + 1))) ∧ (¬ (1 : Int32) = 0 → ((g_I z 8 < 4 → w_X3_readEvent K z (fun r3 u4 => Q 1 (s_I u4 12 (g_I u4 12 + 1)))) ∧ (¬ g_I z 8 < 4 → Q 0 z))) := fun hb => ⟨fun h => absurd h (by decide), fun _ => ⟨fun h => (ht hb).1 (hq4.mp h), fun h => (ht hb).2 (fun h2 => h (hq4.mpr h2))⟩⟩
    unfold w_X3_readEntry w_X3_isToBeEmitted
    refine ⟨fun _ => ?_, fun h => absurd hlt h⟩
    have e12 : (g_I z 12).toNatClampNeg = pl := by rw [pp1]; exact nI_clamp (by omega)
    rw [e12]
    refine ⟨by rw [pp1]; exact hin, fun h => ?_, fun h => ?_⟩
    · unfold w_X6_isItsHigh
      rw [show g_I z 12 = nI pl from pp1]
      refine ⟨fun h3 => ⟨nar0, fin0 ?_⟩, fun h3 => ⟨fun h4 => ⟨nar0, fin0 ?_⟩, fun h4 => ⟨nar1, fin1 ?_⟩⟩⟩
      · cases hb : b with
        | false => rfl
        | true => exact absurd ((hb2 h).mp hb).1 h3
      · cases hb : b with
        | false => rfl
        | true => exact absurd ((hb2 h).mp hb).2 h4
      · exact (hb2 h).mpr ⟨h3, h4⟩
    · rw [show g_I z 12 = nI pl from pp1]
      refine ⟨fun h3 => fin0 ?_, fun h3 => fin1 ((hb1 h).mpr h3)⟩
      cases hb : b with
      | false => rfl
      | true => exact absurd h3 ((hb1 h).mp hb)
  -- the relation when only the place moves on
  have skip : (g_A w 0 pl = 3 → nI pl ≤ g_I w 8) → (ph = 3 → ¬ pl = hg) → J K C T le t (s_I z 12 (nI (pl + 1))) (s_I w 10 (nI (pl + 1))) := by
    intro h3 h33
    refine ⟨n, o, bg, q, pl + 1, nx, cz, ep, ph, lw, cut, hg, ap, hC, hS, hL, ⟨⟨p1, p2, p3⟩, fun i hi => ?_, po, ptm, ⟨pf1, pf2⟩, plast, ⟨rfl, rfl, by omega⟩, ⟨pn1, pn2, pn3⟩⟩, hH, ⟨⟨w1, w2, w3⟩, fun h1 => ?_, wc, fun h1 => ?_⟩, hKK⟩
    · obtain ⟨d1, d2, d3, p, d4, d5, d6⟩ := pq i hi
      exact ⟨d1, d2, d3, p, d4, by omega, d6⟩
    · obtain ⟨l1, l2, l3, l4, l5, l6⟩ := wl h1
      refine ⟨l1, l2, l3, l4, l5, fun k hk => ?_⟩
      show g_A z 9 k = if skw w (nI k) lw (pl + 1) = true then 1 else 0
      have es : skw w (nI k) lw (pl + 1) = skw w (nI k) lw pl := by
        rw [sk_succ]
        by_cases c3 : g_A w 0 pl = 3
        · have hle := h3 c3
          have hlw : ¬ lw < pl := by
            rcases l5 with l5 | ⟨f, f1, f2⟩
            · rw [l5] at hle
              exfalso
              rw [Int32.le_iff_toInt_le, nI_toInt (by omega)] at hle
              have : (-1 : Int32).toInt = -1 := by decide
              omega
            · rw [f2, nI_leI (by omega) (by omega)] at hle
              omega
          simp [hlw]
        · simp [c3]
      rw [es]; exact l6 k hk
    · obtain ⟨d1, d2, d3, d4, d5⟩ := wh h1
      exact ⟨d1, d2, d3, by have := h33 h1; omega, d5⟩
  by_cases hcm : g_A w 0 pl = 3
  · have hX1 : g_A z 6 pl = 1 := hk.mpr hcm
    by_cases hfr : nI pl ≤ g_I w 8
    · -- a commit that was stored before the last crash
      refine Or.inr ⟨_, _, skip (fun _ => hfr) (fun h e => ?_), fun Q hQ => xtop Q false (fun _ => ⟨fun h => (by cases h), fun h => absurd (by rw [pf1]; exact hfr) h⟩) (fun h => absurd hX1 h) (fun _ => hQ) (fun h => by cases h), fun Q n9 v1 v2 hv hQ => m_next hv a2 pp2 hpl hn (fun h => absurd h (by rw [hcm]; decide)) (fun _ => by rw [pp2]; exact hfr) hQ⟩
      obtain ⟨-, -, -, -, d5, -⟩ := wh h
      rw [← e, hcm] at d5
      exact absurd d5 (by decide)
    · by_cases hq : q < 4
      · -- a commit, emitted
        have hE : EV K C nx n z w pl := ⟨hpl, Or.inl hcm⟩
        have hkd : (if g_A w 0 pl = 6 then (1 : Int32) else 0) = 0 := if_neg (by rw [hcm]; decide)
        have hkd' : (if g_A z 6 pl = 4 then (1 : Int32) else 0) = 0 := if_neg (by rw [hX1]; decide)
        have h6 := p_emit6 (kd := 0) (by decide) hC hS hL hP hH hKK hq hpl hE (decide (cz < 8)) rfl
        generalize hfl : decide (cz < 8) = fl at h6
        have mpart : ∀ (Q : Int32 → St → Prop) (n9 : Nat) (v1 v2 : Int32), ¬ v1 ≤ v2 → w_M0_step_17 K Q n9 v1 (v2 + 1) 0 (s_I (mem_ w cz q pl 0 (nI ep) fl) 10 (nI (pl + 1))) → w_M0_step_17 K Q (n9 + 1) v1 v2 0 w := by
          intro Q n9 v1 v2 hv hQ
          refine m_commit hv a2 pp2 hpl hn hcm (by rw [pp2]; exact hfr) (fun _ => m_emit rfl hkd p2 hq (by omega) g2 g3 e2 ?_) (fun h => absurd (hq4'.mpr hq) h)
          rw [hfl]
          have e10 : g_I (mem_ w cz q pl 0 (nI ep) fl) 10 = nI pl := by cases fl <;> exact pp2
          rw [e10, nI_1]
          exact hQ
        have xpart : ∀ (Q : Int32 → St → Prop), (w_X3_strikeKeysOf K (g_A w 1 pl) (xem z cz q pl 0 (nI ep) fl) (fun r5 u6 => Q 1 (s_I u6 12 (g_I u6 12 + 1)))) → w_X3_readEntry K z Q := by
          intro Q hQ
          refine xtop Q true (fun _ => ⟨fun _ => by rw [pf1]; exact hfr, fun _ => rfl⟩) (fun h => absurd hX1 h) (fun h => by cases h) (fun _ => ⟨fun _ => ?_, fun h => absurd hq h⟩)
          unfold w_X3_readEvent
          refine x_emit hkd' p1 hq pp1 (by omega) g1 g3 e1 ?_
          rw [hfl]
          have e12 : g_I (xem z cz q pl 0 (nI ep) fl) 12 = nI pl := by cases fl <;> exact pp1
          have e6 : g_A (xem z cz q pl 0 (nI ep) fl) 6 = g_A z 6 := by cases fl <;> rfl
          have e7 : g_A (xem z cz q pl 0 (nI ep) fl) 7 = g_A z 7 := by cases fl <;> rfl
          rw [e12, nI_clamp (show pl < 2 ^ 31 by omega), e6, e7, (hL pl hpl).1]
          exact ⟨hin, fun h => absurd hX1 h, fun _ => ⟨hin, hQ⟩⟩
        obtain ⟨hC', hS', hL', hP', hH', hK'⟩ := h6
        have rwf : ∀ (f : Nat → Int32), (1 ≤ ph → ∀ k, k < K → f k = if skw w (nI k) lw (pl + 1) = true then 1 else 0) → RW K C n nx (pl + 1) ph lw cut hg (s_I (s_F (xem z cz q pl 0 (nI ep) fl) 9 f) 12 (nI (pl + 1))) (s_I (mem_ w cz q pl 0 (nI ep) fl) 10 (nI (pl + 1))) := by
          intro f hf
          have hne : ph = 3 → ¬ pl = hg := fun h e => by
            obtain ⟨-, -, -, -, d5, -⟩ := wh h
            rw [← e, hcm] at d5
            exact absurd d5 (by decide)
          cases fl <;> exact ⟨⟨w1, w2, w3⟩, fun h1 => ⟨(wl h1).1, (wl h1).2.1, (wl h1).2.2.1, (wl h1).2.2.2.1, (wl h1).2.2.2.2.1, hf h1⟩, wc, fun h1 => ⟨(wh h1).1, (wh h1).2.1, (wh h1).2.2.1, by have := (wh h1).2.2.2.1; have := hne h1; omega, (wh h1).2.2.2.2⟩⟩
        by_cases hlow : 1 ≤ ph ∧ lw < pl
        · -- its keys are struck
          obtain ⟨l1, l2, l3, l4, l5, l6⟩ := wl hlow.1
          have hLe : RL K n bg (xem z cz q pl 0 (nI ep) fl) w := by cases fl <;> exact hL
          have he12 : g_I (xem z cz q pl 0 (nI ep) fl) 12 = nI pl := by cases fl <;> exact pp1
          have he9 : g_A (xem z cz q pl 0 (nI ep) fl) 9 = g_A z 9 := by cases fl <;> rfl
          have he20 : g_I (xem z cz q pl 0 (nI ep) fl) 20 = nI ph := by cases fl <;> exact w1
          have he21 : g_I (xem z cz q pl 0 (nI ep) fl) 21 = nI lw := by cases fl <;> exact l2
          obtain ⟨f, hf1, hf2⟩ := x_strike_17 (z := xem z cz q pl 0 (nI ep) fl) (x := g_A w 1 pl) hLe he12 pp3 hn hK pl 0 _ (by omega) (fun k hk => by show g_A (xem z cz q pl 0 (nI ep) fl) 9 k = _; rfl)
          rw [he9] at hf1
          refine Or.inr ⟨s_I (s_F (xem z cz q pl 0 (nI ep) fl) 9 f) 12 (nI (pl + 1)), s_I (mem_ w cz q pl 0 (nI ep) fl) 10 (nI (pl + 1)), ⟨n, o, bg, q + 1, pl + 1, nx, czn cz fl, ep, ph, lw, cut, hg, ap, hC', hS', hL', hP', hH', rwf f (fun _ k hk => ?_), hK'⟩, fun Q hQ => xpart Q ?_, mpart⟩
          · rw [hf1 k hk, l6 k hk, sk_succ]
            cases hb : (lbw w (g_A w 1 pl) (nI k) pl).isSome <;> cases hs : skw w (nI k) lw pl <;> simp [hlow.2, hcm]
          · unfold w_X3_strikeKeysOf w_X6_isLowBefore
            rw [he12, he20, he21]
            refine ⟨fun h => absurd h (nI_ne0 (by omega) (by omega)), fun _ => ⟨fun h => absurd h (nI_ge hlow.2 (by omega)), fun _ => ⟨fun _ => ⟨pl + 1, ?_⟩, fun h => absurd h (by decide)⟩⟩⟩
            have h2 := hf2 (fun r5 u6 => Q 1 (s_I u6 12 (g_I u6 12 + 1))) (by
              have e : g_I (s_F (xem z cz q pl 0 (nI ep) fl) 9 f) 12 = nI pl := he12
              show Q 1 (s_I (s_F (xem z cz q pl 0 (nI ep) fl) 9 f) 12 (g_I (s_F (xem z cz q pl 0 (nI ep) fl) 9 f) 12 + 1))
              rw [e, nI_1]; exact hQ)
            rw [sF_id] at h2
            exact h2
        · -- no chunk, or its low not read yet
          have he12 : g_I (xem z cz q pl 0 (nI ep) fl) 12 = nI pl := by cases fl <;> exact pp1
          have he20 : g_I (xem z cz q pl 0 (nI ep) fl) 20 = nI ph := by cases fl <;> exact w1
          have hR := rwf (g_A (xem z cz q pl 0 (nI ep) fl) 9) (fun h1 k hk => by
            obtain ⟨l1, l2, l3, l4, l5, l6⟩ := wl h1
            have hle : pl ≤ lw := by omega
            have e9 : g_A (xem z cz q pl 0 (nI ep) fl) 9 k = g_A z 9 k := by cases fl <;> rfl
            have s1 : skw w (nI k) lw pl = false := sk_small pl (by omega)
            have s2 : skw w (nI k) lw (pl + 1) = false := sk_small (pl + 1) (by omega)
            rw [e9, l6 k hk, s1, s2])
          rw [sF_id] at hR
          refine Or.inr ⟨s_I (xem z cz q pl 0 (nI ep) fl) 12 (nI (pl + 1)), s_I (mem_ w cz q pl 0 (nI ep) fl) 10 (nI (pl + 1)), ⟨n, o, bg, q + 1, pl + 1, nx, czn cz fl, ep, ph, lw, cut, hg, ap, hC', hS', hL', hP', hH', hR, hK'⟩, fun Q hQ => xpart Q ?_, mpart⟩
          unfold w_X3_strikeKeysOf w_X6_isLowBefore
          have hQ' : Q 1 (s_I (xem z cz q pl 0 (nI ep) fl) 12 (g_I (xem z cz q pl 0 (nI ep) fl) 12 + 1)) := by rw [he12, nI_1]; exact hQ
          rw [he12, he20]
          refine ⟨fun _ => ⟨fun h => absurd rfl h, fun _ => hQ'⟩, fun h0 => ⟨fun _ => ⟨fun h => absurd rfl h, fun _ => hQ'⟩, fun h => ?_⟩⟩
          exfalso
          have h1 : 1 ≤ ph := by
            rcases Nat.eq_zero_or_pos ph with h | h
            · subst h; exact absurd rfl h0
            · exact h
          obtain ⟨l1, l2, -⟩ := wl h1
          have he21 : g_I (xem z cz q pl 0 (nI ep) fl) 21 = nI lw := by cases fl <;> exact l2
          rw [he21] at h
          exact h (nI_le (by omega) (by have := (wl h1).2.2.2.1; omega))
      · -- stuck
        refine Or.inl ⟨fun Q hQ => xtop Q true (fun _ => ⟨fun _ => by rw [pf1]; exact hfr, fun _ => rfl⟩) (fun h => absurd hX1 h) (fun h => by cases h) (fun _ => ⟨fun h => absurd h hq, fun _ => hQ⟩), fun Q n9 v1 v2 hv hQ => ?_⟩
        exact m_commit hv a2 pp2 hpl hn hcm (by rw [pp2]; exact hfr) (fun h => absurd (hq4'.mp h) hq) (fun _ => m_stuck a2 pp2 hQ)
  · have hX1 : ¬ g_A z 6 pl = 1 := fun h => hcm (hk.mp h)
    by_cases hown : ph = 3 ∧ pl = hg
    · obtain ⟨h3, hpg⟩ := hown
      subst h3; subst hpg
      obtain ⟨d1, d2, d3, d4, d5, d6, d7, d8⟩ := wh rfl
      obtain ⟨l1, l2, l3, l4, l5, l6⟩ := wl (by omega)
      obtain ⟨f1, f2, f3, f4⟩ := wc (by omega)
      by_cases hq : q < 4
      · -- the chunk's high, emitted
        have hk4 : g_A z 6 pl = 4 := by
          obtain ⟨-, r⟩ := hL pl hpl
          rcases r with ⟨-, -, -, -, ⟨r2, -⟩ | ⟨r2, -⟩⟩ | ⟨-, r2⟩ | ⟨-, r2⟩ | ⟨-, r2⟩ | ⟨r1, -⟩
          · rw [d5] at r2; exact absurd r2 (by decide)
          · rw [d5] at r2; exact absurd r2 (by decide)
          · rw [d5] at r2; exact absurd r2 (by decide)
          · rw [d5] at r2; exact absurd r2 (by decide)
          · rw [d5] at r2; exact absurd r2 (by decide)
          · exact r1
        have hkd : (if g_A w 0 pl = 6 then (1 : Int32) else 0) = 1 := if_pos d5
        have hkd' : (if g_A z 6 pl = 4 then (1 : Int32) else 0) = 1 := if_pos hk4
        have hlo : lw < pl := by
          obtain ⟨-, r⟩ := rl_ok hL hpl (Or.inr d5)
          obtain ⟨-, lo, cu, r1, r2, r3, r4⟩ := r.resolve_left hcm
          rw [d6, nI_eq (by omega) (by omega)] at r3
          omega
        have hcu : cut ≤ pl := by
          obtain ⟨-, r⟩ := rl_ok hL hpl (Or.inr d5)
          obtain ⟨-, lo, cu, r1, r2, r3, r4⟩ := r.resolve_left hcm
          rw [d7, nI_eq (by omega) (by omega)] at r4
          omega
        generalize hfl : decide (cz < 8) = fl
        have he5 : g_I (xem z cz q pl 1 (nI ep) fl) 5 = nI K := by cases fl <;> exact c3
        have he13 : g_I (xem z cz q pl 1 (nI ep) fl) 13 = nI nx := by cases fl <;> exact pn1
        have he6 : g_I (xem z cz q pl 1 (nI ep) fl) 6 = nI C := by cases fl <;> exact c4
        have he12 : g_I (xem z cz q pl 1 (nI ep) fl) 12 = nI pl := by cases fl <;> exact pp1
        have hebv : ∀ k, bv (xem z cz q pl 1 (nI ep) fl) k = bv z k := by intro k; cases fl <;> rfl
        have heL2 : g_L (xem z cz q pl 1 (nI ep) fl) 2 = g_L z 2 := by cases fl <;> rfl
        obtain ⟨f, hf1, hf2, hf3⟩ := x_bear_5 (z := xem z cz q pl 1 (nI ep) fl) (b := min (nx + C) K) he5 he13 he6 rfl hK hC6 (by omega) (min (nx + C) K - nx) nx _ (by omega) (Nat.le_refl _) (fun i i1 i2 => by omega) (fun i hi => rfl)
        rw [heL2] at hf2
        have hfb : ∀ k, nx ≤ k → k < nx + C → k < K → f k = if skw w (nI k) lw pl = true then -1 else tbw w (nI k) cut := by
          intro k k1 k2 k3
          rw [hf1 k k1 (by omega), hebv]
          unfold bv
          rw [l6 k k3, f4 k k1 k2 k3]
          cases skw w (nI k) lw pl <;> simp
        -- the state as if the rows were borne before the emission
        have hPb : RP K C n (nx + C) pl q (s_I (s_I (s_G z 2 f) 20 0) 13 (nI (nx + C))) (s_I (s_I w 12 0) 11 (nI (nx + C))) := by
          refine ⟨⟨p1, p2, p3⟩, fun i hi => ?_, po, ptm, ⟨pf1, pf2⟩, plast, ⟨pp1, pp2, pp3⟩, ⟨rfl, rfl, by omega⟩⟩
          obtain ⟨m1, m2, m3, p, m4, m5, m6⟩ := pq i hi
          exact ⟨m1, m2, m3, p, m4, m5, ev_bear hC1 hf2 m6⟩
        have hHb : RH K C n (nx + C) cz ep t (s_I (s_I (s_G z 2 f) 20 0) 13 (nI (nx + C))) (s_I (s_I w 12 0) 11 (nI (nx + C))) := by
          obtain ⟨m1, m2, m3⟩ := hH
          refine ⟨m1, m2, fun i hi => ?_⟩
          obtain ⟨m4, m5, m6⟩ := m3 i hi
          exact ⟨m4, m5, fun q1 q2 => (m6 q1 q2).imp (fun p hp => ⟨hp.1, ev_bear hC1 hf2 hp.2⟩)⟩
        have hKb : RK K C n (nx + C) ap le (s_I (s_I (s_G z 2 f) 20 0) 13 (nI (nx + C))) (s_I (s_I w 12 0) 11 (nI (nx + C))) := by
          obtain ⟨m1, m2, m3, m4, ⟨m5, m6⟩⟩ := hKK
          refine ⟨m1, m2, m3, m4, m5, ?_⟩
          rcases m6 with m6 | ⟨s, s1, s2, s3⟩
          · exact Or.inl m6
          · exact Or.inr ⟨s, s1, ev_bear hC1 hf2 s2, s3⟩
        have hE : EV K C (nx + C) n (s_I (s_I (s_G z 2 f) 20 0) 13 (nI (nx + C))) (s_I (s_I w 12 0) 11 (nI (nx + C))) pl := ⟨hpl, Or.inr ⟨d5, nx, lw, cut, ⟨hlo, hcu⟩, d8, d6, d7, Nat.le_refl _, hfb⟩⟩
        have h6 := p_emit6 (z := s_I (s_I (s_G z 2 f) 20 0) 13 (nI (nx + C))) (w := s_I (s_I w 12 0) 11 (nI (nx + C))) (T := T) (le := le) (o := o) (bg := bg) (kd := 1) (by decide) hC hS hL hPb hHb hKb hq hpl hE fl hfl.symm
        obtain ⟨hC', hS', hL', hP', hH', hK'⟩ := h6
        have hW' : RW K C n (nx + C) (pl + 1) 0 0 0 0 (s_I (s_I (s_I (s_G (xem z cz q pl 1 (nI ep) fl) 2 f) 20 0) 13 (nI (nx + C))) 12 (nI (pl + 1))) (s_I (s_I (s_I (mem_ w cz q pl 1 (nI ep) fl) 12 0) 11 (nI (nx + C))) 10 (nI (pl + 1))) := ⟨⟨rfl, rfl, by omega⟩, fun h => by omega, fun h => by omega, fun h => by omega⟩
        refine Or.inr ⟨s_I (s_I (s_I (s_G (xem z cz q pl 1 (nI ep) fl) 2 f) 20 0) 13 (nI (nx + C))) 12 (nI (pl + 1)), s_I (s_I (s_I (mem_ w cz q pl 1 (nI ep) fl) 12 0) 11 (nI (nx + C))) 10 (nI (pl + 1)), ?_, fun Q hQ => ?_, fun Q n9 v1 v2 hv hQ => ?_⟩
        · refine ⟨n, o, bg, q + 1, pl + 1, nx + C, czn cz fl, ep, 0, 0, 0, 0, ap, ?_⟩
          cases fl <;> exact ⟨hC', hS', hL', hP', hH', hW', hK'⟩
        · refine xtop Q true (fun h => absurd h hX1) (fun _ => ⟨fun _ => ⟨w1, d1⟩, fun _ => rfl⟩) (fun h => by cases h) (fun _ => ⟨fun _ => ?_, fun h => absurd hq h⟩)
          unfold w_X3_readEvent
          refine x_emit hkd' p1 hq pp1 (by omega) g1 g3 e1 ?_
          rw [hfl]
          have e6' : g_A (xem z cz q pl 1 (nI ep) fl) 6 = g_A z 6 := by cases fl <;> rfl
          rw [he12, nI_clamp (show pl < 2 ^ 31 by omega), e6']
          refine ⟨hin, fun _ => ?_, fun h => absurd h hX1⟩
          unfold w_X3_bearChunk
          rw [he13]
          have h3 := hf3 (fun r3 u4 => Q 1 (s_I u4 12 (g_I u4 12 + 1))) (by
            have e : g_I (s_I (s_I (s_G (xem z cz q pl 1 (nI ep) fl) 2 f) 20 0) 13 (nI (nx + C))) 12 = nI pl := he12
            show Q 1 (s_I (s_I (s_I (s_G (xem z cz q pl 1 (nI ep) fl) 2 f) 20 0) 13 (nI (nx + C))) 12 (g_I (s_I (s_I (s_G (xem z cz q pl 1 (nI ep) fl) 2 f) 20 0) 13 (nI (nx + C))) 12 + 1))
            rw [e, nI_1]; exact hQ)
          rw [sG_id] at h3
          exact ⟨_, h3⟩
        · refine m_high hv a2 pp2 hpl hn d5 w2 (by rw [pp2, d2]) (fun _ => m_emit rfl hkd p2 hq (by omega) g2 g3 e2 ?_) (fun h => absurd (hq4'.mpr hq) h)
          rw [hfl]
          have e10 : g_I (mem_ w cz q pl 1 (nI ep) fl) 10 = nI pl := by cases fl <;> exact pp2
          have e11 : g_I (mem_ w cz q pl 1 (nI ep) fl) 11 = nI nx := by cases fl <;> exact pn2
          have e1' : g_I (mem_ w cz q pl 1 (nI ep) fl) 1 = nI C := by cases fl <;> exact c5
          rw [e10, e11, e1', nI_1, nI_add]
          exact hQ
      · refine Or.inl ⟨fun Q hQ => xtop Q true (fun h => absurd h hX1) (fun _ => ⟨fun _ => ⟨w1, d1⟩, fun _ => rfl⟩) (fun h => by cases h) (fun _ => ⟨fun h => absurd h hq, fun _ => hQ⟩), fun Q n9 v1 v2 hv hQ => ?_⟩
        exact m_high hv a2 pp2 hpl hn d5 w2 (by rw [pp2, d2]) (fun h => absurd (hq4'.mp h) hq) (fun _ => m_stuck a2 pp2 hQ)
    · -- nothing to emit
      refine Or.inr ⟨_, _, skip (fun h => absurd h hcm) (fun h e => hown ⟨h, e⟩), fun Q hQ => xtop Q false (fun h => absurd h hX1) (fun _ => ⟨fun h => (by cases h), fun h => ?_⟩) (fun _ => hQ) (fun h => by cases h), fun Q n9 v1 v2 hv hQ => m_next hv a2 pp2 hpl hn (fun h6 h12 h15 => ?_) (fun h => absurd h hcm) hQ⟩
      · exfalso
        obtain ⟨h20, h22⟩ := h
        have e3 : ph = 3 := by rw [w1] at h20; exact (nI_eq (b := 3) (by omega) (by omega)).mp h20
        obtain ⟨d1, -, d3, -⟩ := wh e3
        rw [d1, nI_eq (by omega) (by omega)] at h22
        exact hown ⟨e3, h22.symm⟩
      · have e3 : ph = 3 := by rw [w2] at h12; exact (nI_eq (b := 3) (by omega) (by omega)).mp h12
        obtain ⟨-, d2, d3, -⟩ := wh e3
        rw [pp2, d2, nI_eq (by omega) (by omega)] at h15
        exact hown ⟨e3, h15⟩
theorem p_step (hK : K ≤ 12) (hC6 : C ≤ 6) (hC1 : 1 ≤ C) {x : Nat} (hx : x ≤ 100) : ∀ (d c : Nat) (z w : St), c + d = x → J K C T le t z w → ∃ (r : Int32) (z' w' : St) (nM nX : Nat), J K C T le t z' w' ∧ (∀ Q : Int32 → St → Prop, Q r w' → w_M0_step_17 K Q nM (nI x) (nI c) 0 w) ∧ (∀ Q : Int32 → St → Prop, Q r z' → w_X0_step_15 K Q nX (nI x) (nI c) z)
  | 0, c, z, w, hc, h => by
    have e : c = x := by omega
    subst e
    refine ⟨nI c, z, w, 1, 1, h, fun Q hQ => ?_, fun Q hQ => ?_⟩
    · unfold w_M0_step_17
      exact ⟨fun _ => hQ, fun hh => absurd (nI_le (Nat.le_refl _) (by omega)) hh⟩
    · unfold w_X0_step_15
      exact ⟨fun _ => hQ, fun hh => absurd (nI_le (Nat.le_refl _) (by omega)) hh⟩
  | d + 1, c, z, w, hc, h => by
    have h0 := h
    obtain ⟨n, o, bg, q, pl, nx, cz, ep, ph, lw, cut, hg, ap, hJP⟩ := h0
    have hv : ¬ nI x ≤ nI c := nI_ge (by omega) (by omega)
    have hJ0 := hJP
    obtain ⟨-, ⟨⟨a1, a2, -⟩, ⟨b1, b2, b3⟩, -⟩, -, ⟨-, -, -, -, -, -, ⟨pp1, pp2, pp3⟩, -⟩, -⟩ := hJ0
    by_cases hpl : pl < n
    · rcases p_read hK hC6 hC1 hJP hpl with ⟨sX, sM⟩ | ⟨z1, w1, hJ1, rX, rM⟩
      · refine ⟨nI c, z, w, 2, 1, h, fun Q hQ => sM Q 0 _ _ hv hQ, fun Q hQ => ?_⟩
        unfold w_X0_step_15
        exact ⟨fun hh => absurd hh hv, fun _ => sX _ ⟨fun _ => hQ, fun hh => absurd rfl hh⟩⟩
      · obtain ⟨r, z', w', nM, nX, hJ', iM, iX⟩ := p_step hK hC6 hC1 hx d (c + 1) z1 w1 (by omega) hJ1
        refine ⟨r, z', w', nM + 1, nX + 1, hJ', fun Q hQ => rM Q nM _ _ hv (by rw [nI_1]; exact iM Q hQ), fun Q hQ => ?_⟩
        unfold w_X0_step_15
        refine ⟨fun hh => absurd hh hv, fun _ => rX _ ⟨fun hh => absurd hh (by decide), fun _ => ?_⟩⟩
        rw [nI_1]
        exact iX Q hQ
    · have hge : ¬ g_I z 12 < g_I z 19 := by rw [pp1, a1]; exact nI_nlt (by omega) (by omega)
      have hge2 : g_I w 4 ≤ g_I w 10 := by rw [pp2, a2]; exact nI_le (by omega) (by omega)
      refine ⟨nI c, z, w, 1, 1, h, fun Q hQ => ?_, fun Q hQ => ?_⟩
      · unfold w_M0_step_17
        exact ⟨fun hh => absurd hh hv, fun _ => ⟨fun _ => hQ, fun hh => absurd hge2 hh⟩⟩
      · unfold w_X0_step_15 w_X3_readEntry
        exact ⟨fun hh => absurd hh hv, fun _ => ⟨fun hh => absurd hh hge, fun _ => ⟨fun _ => hQ, fun hh => absurd rfl hh⟩⟩⟩
theorem o_step (hK : K ≤ 12) (hC6 : C ≤ 6) (hC1 : 1 ≤ C) (x1 : Int32) (h : J K C T le t z w) : w_X0_step K x1 z (fun r u => w_M0_step K x1 w (fun r' u' => r = r' ∧ J K C T le (t + 1) u u')) := by
  have hJ := J_up h
  unfold w_X0_step
  refine ⟨fun h1 => ?_, fun h1 => ⟨fun h2 => ?_, fun h2 => ?_⟩⟩
  · unfold w_M0_step
    exact ⟨fun _ => ⟨rfl, hJ⟩, fun h => absurd h1 h⟩
  · obtain ⟨x, hx, rfl⟩ := nI_of h1
    have hx100 : x ≤ 100 := by
      rw [Int32.le_iff_toInt_le, nI_toInt hx] at h2
      have e : (100 : Int32).toInt = 100 := by decide
      omega
    obtain ⟨r, z', w', nM, nX, hJ', sM, sX⟩ := p_step hK hC6 hC1 hx100 x 0 z w (by omega) hJ
    refine ⟨nX, sX _ ?_⟩
    unfold w_M0_step
    exact ⟨fun h => absurd h h1, fun _ => ⟨fun _ => ⟨nM, sM _ ⟨rfl, hJ'⟩⟩, fun h => absurd h2 h⟩⟩
  · unfold w_M0_step
    exact ⟨fun h => absurd h h1, fun _ => ⟨fun h => absurd h h2, fun _ => ⟨rfl, hJ⟩⟩⟩
end ST
