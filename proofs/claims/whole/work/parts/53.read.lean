/-! reading the log -/
section RD
variable {K C T : Nat} {le : Int32} {t n o bg q pl nx cz ep ph lw cut hg ap : Nat} {z w : St}
theorem x_isChange {Q : Int32 → St → Prop} {i : Nat} {x : Int32} (hi : i < 160) (hy : g_A z 6 i = 0 → g_A z 7 i = x → Q 1 z) (hn : ¬ (g_A z 6 i = 0 ∧ g_A z 7 i = x) → Q 0 z) : w_X5_isChangeOf K (nI i) x z Q := by
  unfold w_X5_isChangeOf
  rw [nI_clamp (by omega)]
  have hin : vp_in (nI i) 160 := vp_in_nI hi (by omega)
  exact ⟨hin, fun h => hn (fun hh => h hh.1), fun h => ⟨hin, fun h2 => hn (fun hh => h2 hh.2), fun h2 => hy h h2⟩⟩
theorem rl_chg (hL : RL K n bg z w) {i : Nat} (hi : i < n) : g_A z 6 i = 0 ↔ (g_A w 0 i = 1 ∨ g_A w 0 i = 2) := by
  obtain ⟨-, r⟩ := hL i hi
  rcases r with ⟨r1, -, -, -, ⟨r2, -⟩ | ⟨r2, -⟩⟩ | ⟨r1, r2⟩ | ⟨r1, r2⟩ | ⟨r1, r2⟩ | ⟨r1, r2, -⟩ <;> rw [r1, r2] <;> decide
theorem x_strike_17 {x : Int32} (hL : RL K n bg z w) (h12 : g_I z 12 = nI pl) (hpl : pl ≤ n) (hn : n ≤ 160) (hK : K ≤ 12) : ∀ (d i : Nat) (f : Nat → Int32), i + d = pl → (∀ k, k < K → f k = if (lbw w x (nI k) i).isSome = true then 1 else g_A z 9 k) → ∃ f' : Nat → Int32, (∀ k, k < K → f' k = if (lbw w x (nI k) pl).isSome = true then 1 else g_A z 9 k) ∧ ∀ Q : Unit → St → Prop, Q () (s_F z 9 f') → w_X3_strikeKeysOf_17 K Q (d + 1) x (nI i) (s_F z 9 f)
  | 0, i, f, hd, hf => by
    have e : i = pl := by omega
    subst e
    refine ⟨f, hf, fun Q hQ => ?_⟩
    unfold w_X3_strikeKeysOf_17
    have e12 : g_I (s_F z 9 f) 12 = nI i := h12
    rw [e12]
    exact ⟨fun _ => hQ, fun hh => absurd (nI_le (Nat.le_refl _) (by omega)) hh⟩
  | d + 1, i, f, hd, hf => by
    have hin : i < n := by omega
    obtain ⟨r0, -⟩ := hL i hin
    have hch := rl_chg hL hin
    by_cases hc : g_A z 6 i = 0 ∧ g_A z 7 i = x
    · obtain ⟨-, ⟨k0, k1, k2⟩, -, k4, -⟩ := rl_who hL hin (hch.mp hc.1)
      obtain ⟨f', h1, h2⟩ := x_strike_17 (x := x) hL h12 hpl hn hK d (i + 1) (upd f k0 1) (by omega) (fun k hk => by
        rw [upd_at]
        by_cases e : k = k0
        · subst e
          rw [if_pos rfl, lb_succ_eq ⟨r0.symm.trans hc.2, k2, hch.mp hc.1⟩]; rfl
        · rw [if_neg e, lb_succ_ne (fun hh => e (by have := hh.2.1; rw [k2, nI_eq (by omega) (by omega)] at this; exact this.symm))]
          exact hf k hk)
      refine ⟨f', h1, fun Q hQ => ?_⟩
      unfold w_X3_strikeKeysOf_17
      have e12 : g_I (s_F z 9 f) 12 = nI pl := h12
      rw [e12]
      refine ⟨fun hh => absurd hh (nI_ge (by omega) (by omega)), fun _ => x_isChange (z := s_F z 9 f) (by omega) (fun _ _ => ⟨fun h => absurd h (by decide), fun _ => ?_⟩) (fun h => absurd hc h)⟩
      have e8 : g_A (s_F z 9 f) 8 i = nI k0 := k4.trans k2
      rw [nI_clamp (show i < 2 ^ 31 by omega), e8, nI_clamp (show k0 < 2 ^ 31 by omega), nI_1, sA_sF]
      exact ⟨vp_in_nI (by omega) (by omega), vp_in_nI k1 (by omega), h2 Q hQ⟩
    · obtain ⟨f', h1, h2⟩ := x_strike_17 (x := x) hL h12 hpl hn hK d (i + 1) f (by omega) (fun k hk => by
        rw [lb_succ_ne (fun hh => hc ⟨hch.mpr hh.2.2, r0.trans hh.1⟩)]
        exact hf k hk)
      refine ⟨f', h1, fun Q hQ => ?_⟩
      unfold w_X3_strikeKeysOf_17
      have e12 : g_I (s_F z 9 f) 12 = nI pl := h12
      rw [e12]
      refine ⟨fun hh => absurd hh (nI_ge (by omega) (by omega)), fun _ => x_isChange (z := s_F z 9 f) (by omega) (fun h1 h2 => absurd ⟨h1, h2⟩ hc) (fun _ => ⟨fun _ => ?_, fun h => absurd rfl h⟩)⟩
      rw [nI_1]
      exact h2 Q hQ
def bv (z : St) (k : Nat) : Int64 := if g_A z 9 k = 0 then g_L z 5 k else -1
theorem x_bear_5 {b : Nat} (h5 : g_I z 5 = nI K) (h13 : g_I z 13 = nI nx) (h6 : g_I z 6 = nI C) (hb : b = min (nx + C) K) (hK : K ≤ 12) (hC6 : C ≤ 6) (hnx : nx ≤ 12) : ∀ (d k : Nat) (f : Nat → Int64), k + d = b → nx ≤ k → (∀ i, nx ≤ i → i < k → f i = bv z i) → (∀ i, i < nx → f i = g_L z 2 i) → ∃ f' : Nat → Int64, (∀ i, nx ≤ i → i < b → f' i = bv z i) ∧ (∀ i, i < nx → f' i = g_L z 2 i) ∧ ∀ Q : Unit → St → Prop, Q () (s_I (s_I (s_G z 2 f') 20 0) 13 (nI (nx + C))) → w_X3_bearChunk_5 K Q (d + 1) (nI k) (s_G z 2 f)
  | 0, k, f, hd, hk, hf, hg => by
    have e : k = b := by omega
    subst e
    refine ⟨f, hf, hg, fun Q hQ => ?_⟩
    unfold w_X3_bearChunk_5 w_X3_afterChunk w_X6_stop
    have e5 : g_I (s_G z 2 f) 5 = nI K := h5
    have e13 : g_I (s_G z 2 f) 13 = nI nx := h13
    have e6 : g_I (s_G z 2 f) 6 = nI C := h6
    have e13' : g_I (s_I (s_G z 2 f) 20 0) 13 = nI nx := h13
    have e6' : g_I (s_I (s_G z 2 f) 20 0) 6 = nI C := h6
    rw [e5, e13, e6, after_eq hC6 hK (by omega), ← hb]
    dsimp only
    rw [e13', e6', nI_add]
    exact ⟨fun _ => hQ, fun hh => absurd (nI_le (Nat.le_refl _) (by omega)) hh⟩
  | d + 1, k, f, hd, hk, hf, hg => by
    obtain ⟨f', h1, h2, h3⟩ := x_bear_5 h5 h13 h6 hb hK hC6 hnx d (k + 1) (vp_updL f k (bv z k)) (by omega) (by omega) (fun i i1 i2 => by
      rw [updL_at]
      by_cases e : i = k
      · rw [if_pos e, e]
      · rw [if_neg e]; exact hf i i1 (by omega)) (fun i hi => by rw [updL_at, if_neg (by omega)]; exact hg i hi)
    refine ⟨f', h1, h2, fun Q hQ => ?_⟩
    unfold w_X3_bearChunk_5 w_X3_afterChunk w_X6_rowToBear
    have e5 : g_I (s_G z 2 f) 5 = nI K := h5
    have e13 : g_I (s_G z 2 f) 13 = nI nx := h13
    have e6 : g_I (s_G z 2 f) 6 = nI C := h6
    have hin : vp_in (nI k) K := vp_in_nI (by omega) (by omega)
    rw [e5, e13, e6, after_eq hC6 hK (by omega), ← hb, nI_clamp (show k < 2 ^ 31 by omega)]
    refine ⟨fun hh => absurd hh (nI_ge (by omega) (by omega)), fun _ => ⟨hin, fun h => ⟨hin, hin, ?_⟩, fun h => ⟨hin, ?_⟩⟩⟩
    · have eb : bv z k = g_L z 5 k := if_pos h
      have := h3 Q hQ
      rw [eb] at this
      rw [nI_1]
      show w_X3_bearChunk_5 K Q (d + 1) (nI (k + 1)) (s_L (s_G z 2 f) 2 k (g_L z 5 k))
      rw [sL_sG]; exact this
    · have eb : bv z k = -1 := if_neg h
      have := h3 Q hQ
      rw [eb] at this
      rw [nI_1]
      show w_X3_bearChunk_5 K Q (d + 1) (nI (k + 1)) (s_L (s_G z 2 f) 2 k (-1))
      rw [sL_sG]; exact this
-- emitting
def xe (z : St) (q pl : Nat) : St := s_I (s_I (s_A (s_A z 3 q (nI pl)) 4 q (g_I z 11)) 11 (nI pl)) 8 (nI (q + 1))
def me (w : St) (q pl : Nat) : St := s_I (s_I (s_A (s_A w 10 q (nI pl)) 11 q (g_I w 9)) 9 (nI pl)) 16 (nI (q + 1))
def xem (z : St) (cz q pl : Nat) (kd ep : Int32) : Bool → St
  | true => s_A (xapp (xe z q pl) cz kd ep (nI pl) (g_I z 11)) 5 q (g_I z 9)
  | false => s_A (xe z q pl) 5 q (g_I z 9)
def mem_ (w : St) (cz q pl : Nat) (kd ep : Int32) : Bool → St
  | true => mapp (s_A (me w q pl) 12 q (g_I w 17)) cz kd ep (nI pl) (g_I w 9)
  | false => s_A (me w q pl) 12 q (g_I w 17)
def czn (cz : Nat) : Bool → Nat
  | true => cz + 1
  | false => cz
theorem x_emit {Q : Unit → St → Prop} {kd : Int32} (hkd : (if g_A z 6 pl = 4 then (1 : Int32) else 0) = kd) (h8 : g_I z 8 = nI q) (hq : q < 4) (h12 : g_I z 12 = nI pl) (hpl : pl < 160) (hc : g_I z 3 = nI cz) (hc8 : cz ≤ 8) (h4 : g_I z 4 = nI ep) (hQ : Q () (xem z cz q pl kd (nI ep) (decide (cz < 8)))) : w_X3_emit K z Q := by
  unfold w_X3_emit
  have hin : vp_in (nI q) 4 := vp_in_nI hq (by omega)
  rw [h8, h12, nI_clamp (by omega), nI_1, i_pn]
  refine ⟨hin, hin, x_sendQ (z := xe z q pl) (cz := cz) rfl hq hc hc8 (p := pl) pk_us hpl ?_⟩
  unfold xsq
  by_cases h : cz < 8
  · rw [if_pos h]
    have e : decide (cz < 8) = true := decide_eq_true h
    rw [e] at hQ
    have e1 : (if g_A (xe z q pl) 6 pl = 4 then (1 : Int32) else 0) = kd := hkd
    have e2 : g_I (xe z q pl) 4 = nI ep := h4
    have e3 : g_A (xe z q pl) 3 q = nI pl := pk_us
    have e4 : g_A (xe z q pl) 4 q = g_I z 11 := pk_us
    rw [e1, e2, e3, e4]
    exact hQ
  · rw [if_neg h]
    have e : decide (cz < 8) = false := decide_eq_false h
    rw [e] at hQ
    exact hQ
theorem m_emit {Q : Unit → St → Prop} {kd : Int32} {x : Int32} (hx : x = nI pl) (hkd : (if g_A w 0 pl = 6 then (1 : Int32) else 0) = kd) (h16 : g_I w 16 = nI q) (hq : q < 4) (hpl : pl < 160) (hc : g_I w 18 = nI cz) (hc8 : cz ≤ 8) (h7 : g_I w 7 = nI ep) (hQ : Q () (mem_ w cz q pl kd (nI ep) (decide (cz < 8)))) : w_M0_emit K x w Q := by
  subst hx
  unfold w_M0_emit
  have hin : vp_in (nI q) 4 := vp_in_nI hq (by omega)
  rw [h16, nI_clamp (by omega), nI_1, i_pn]
  refine ⟨hin, hin, m_sendQ (w := me w q pl) (cz := cz) rfl hq hc hc8 (p := pl) pk_us hpl ?_⟩
  unfold msq
  by_cases h : cz < 8
  · rw [if_pos h]
    have e : decide (cz < 8) = true := decide_eq_true h
    rw [e] at hQ
    have e1 : (if g_A (me w q pl) 0 pl = 6 then (1 : Int32) else 0) = kd := hkd
    have e2 : g_I (me w q pl) 7 = nI ep := h7
    have e3 : g_A (me w q pl) 10 q = nI pl := pk_us
    have e4 : g_A (me w q pl) 11 q = g_I w 9 := pk_us
    rw [e1, e2, e3, e4]
    exact hQ
  · rw [if_neg h]
    have e : decide (cz < 8) = false := decide_eq_false h
    rw [e] at hQ
    exact hQ
theorem rp_emit (hP : RP K C n nx pl q z w) (hq : q < 4) (hpl : pl < n) (hn : n ≤ 160) (hE : EV K C nx n z w pl) : RP K C n nx (pl + 1) (q + 1) (s_I (s_A (xe z q pl) 5 q (g_I z 9)) 12 (nI (pl + 1))) (s_I (s_A (me w q pl) 12 q (g_I w 17)) 10 (nI (pl + 1))) := by
  obtain ⟨⟨p1, p2, p3⟩, pq, po, ptm, pf, plast, ⟨pp1, pp2, pp3⟩, pn⟩ := hP
  refine ⟨⟨rfl, rfl, by omega⟩, fun i hi => ?_, fun i j a b hij hj h1 h2 ha hb => ?_, ptm, pf, rfl, ⟨rfl, rfl, by omega⟩, pn⟩
  · show upd (g_A z 3) q (nI pl) i = upd (g_A w 10) q (nI pl) i ∧ upd (g_A z 4) q (g_I z 11) i = upd (g_A w 11) q (g_I w 9) i ∧ upd (g_A z 5) q (g_I z 9) i = upd (g_A w 12) q (g_I w 17) i ∧ ∃ p, upd (g_A w 10) q (nI pl) i = nI p ∧ p < pl + 1 ∧ EV K C nx n z w p
    simp only [upd_at]
    by_cases e : i = q
    · simp only [if_pos e]
      exact ⟨trivial, plast, ptm, pl, rfl, by omega, hE⟩
    · simp only [if_neg e]
      obtain ⟨c1, c2, c3, p, c4, c5, c6⟩ := pq i (by omega)
      exact ⟨c1, c2, c3, p, c4, by omega, c6⟩
  · have h1' : upd (g_A w 10) q (nI pl) i = nI a := h1
    have h2' : upd (g_A w 10) q (nI pl) j = nI b := h2
    rw [upd_at, if_neg (by omega)] at h1'
    rw [upd_at] at h2'
    by_cases e : j = q
    · rw [if_pos e, nI_eq (by omega) (by omega)] at h2'
      obtain ⟨-, -, -, p, c4, c5, -⟩ := pq i (by omega)
      rw [c4, nI_eq (by omega) (by omega)] at h1'
      omega
    · rw [if_neg e] at h2'
      exact po i j a b hij (by omega) h1' h2' ha hb
/-- six of the seven relations behind an emission -/
theorem p_emit6 {kd : Int32} (hk2 : ¬ kd = 2) (hC : RC K C T le z w) (hS : RS K n o bg z w) (hL : RL K n bg z w) (hP : RP K C n nx pl q z w) (hH : RH K C n nx cz ep t z w) (hKK : RK K C n nx ap le z w) (hq : q < 4) (hpl : pl < n) (hE : EV K C nx n z w pl) (fl : Bool) (hfl : fl = decide (cz < 8)) :
    RC K C T le (s_I (xem z cz q pl kd (nI ep) fl) 12 (nI (pl + 1))) (s_I (mem_ w cz q pl kd (nI ep) fl) 10 (nI (pl + 1))) ∧ RS K n o bg (s_I (xem z cz q pl kd (nI ep) fl) 12 (nI (pl + 1))) (s_I (mem_ w cz q pl kd (nI ep) fl) 10 (nI (pl + 1))) ∧ RL K n bg (s_I (xem z cz q pl kd (nI ep) fl) 12 (nI (pl + 1))) (s_I (mem_ w cz q pl kd (nI ep) fl) 10 (nI (pl + 1))) ∧ RP K C n nx (pl + 1) (q + 1) (s_I (xem z cz q pl kd (nI ep) fl) 12 (nI (pl + 1))) (s_I (mem_ w cz q pl kd (nI ep) fl) 10 (nI (pl + 1))) ∧ RH K C n nx (czn cz fl) ep t (s_I (xem z cz q pl kd (nI ep) fl) 12 (nI (pl + 1))) (s_I (mem_ w cz q pl kd (nI ep) fl) 10 (nI (pl + 1))) ∧ RK K C n nx ap le (s_I (xem z cz q pl kd (nI ep) fl) 12 (nI (pl + 1))) (s_I (mem_ w cz q pl kd (nI ep) fl) 10 (nI (pl + 1))) := by
  have hn : n ≤ 160 := by have := hS.2.1.2.1; omega
  have hr := rp_emit hP hq hpl hn hE
  have hpe := hP.2.2.2.2.2.1
  cases fl with
  | true =>
    have hc : cz < 8 := of_decide_eq_true hfl.symm
    have ha := rh_add (a := kd) (b := nI ep) (c := nI pl) (d := g_I w 9) hH hc ⟨ep, Nat.le_refl _, rfl⟩ (fun _ _ => ⟨pl, rfl, hE⟩)
    refine ⟨hC, hS, hL, hr, ?_, hKK⟩
    show RH K C n nx (cz + 1) ep t (s_I (s_A (xapp (xe z q pl) cz kd (nI ep) (nI pl) (g_I z 11)) 5 q (g_I z 9)) 12 (nI (pl + 1))) _
    rw [hpe]
    exact ha
  | false => exact ⟨hC, hS, hL, hr, hH, hKK⟩
end RD
