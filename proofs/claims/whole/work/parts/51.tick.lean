/-! sending; tick -/
section TK
variable {K C T : Nat} {le : Int32} {t n o bg q pl nx cz ep ph lw cut hg ap : Nat} {z w : St}
def xsq (z : St) (cz i p : Nat) : St := s_A (if cz < 8 then xapp z cz (if g_A z 6 p = 4 then 1 else 0) (g_I z 4) (g_A z 3 i) (g_A z 4 i) else z) 5 i (g_I z 9)
def msq (w : St) (cz i p : Nat) : St := if cz < 8 then mapp (s_A w 12 i (g_I w 17)) cz (if g_A w 0 p = 6 then 1 else 0) (g_I w 7) (g_A w 10 i) (g_A w 11 i) else s_A w 12 i (g_I w 17)
theorem x_sendQ {Q : Unit → St → Prop} {i p : Nat} {x : Int32} (hx : x = nI i) (hi : i < 4) (hc : g_I z 3 = nI cz) (h8 : cz ≤ 8) (hp : g_A z 3 i = nI p) (hp2 : p < 160) (hQ : Q () (xsq z cz i p)) : w_X3_sendQueued K x z Q := by
  subst hx
  unfold w_X3_sendQueued
  have hin : vp_in (nI i) 4 := vp_in_nI hi (by omega)
  rw [nI_clamp (by omega)]
  have hpc : (g_A z 3 i).toNatClampNeg = p := by rw [hp]; exact nI_clamp (by omega)
  rw [hpc]
  have snd : ∀ kd, kd = (if g_A z 6 p = 4 then 1 else 0) → w_X2_send K kd (g_A z 3 i) (g_A z 4 i) z (fun r1 u2 => (vp_in (nI i) 4 ∧ Q () (s_A u2 5 i (g_I u2 9)))) := by
    intro kd hkd
    unfold w_X2_send
    unfold xsq at hQ
    refine x_append hc (fun h => ⟨hin, ?_⟩) (fun h => ⟨hin, ?_⟩) h8
    · rw [if_pos h] at hQ; rw [hkd]; exact hQ
    · rw [if_neg (by omega)] at hQ; exact hQ
  refine ⟨hin, by rw [hp]; exact vp_in_nI hp2 (by omega), fun h => ⟨hin, hin, snd 0 (by rw [if_neg h])⟩, fun h => ⟨hin, hin, snd 1 (by rw [if_pos h])⟩⟩
theorem m_sendQ {Q : Unit → St → Prop} {i p : Nat} {x : Int32} (hx : x = nI i) (hi : i < 4) (hc : g_I w 18 = nI cz) (h8 : cz ≤ 8) (hp : g_A w 10 i = nI p) (hp2 : p < 160) (hQ : Q () (msq w cz i p)) : w_M0_send K x w Q := by
  subst hx
  unfold w_M0_send
  have hin : vp_in (nI i) 4 := vp_in_nI hi (by omega)
  rw [nI_clamp (by omega)]
  have hpc : (g_A w 10 i).toNatClampNeg = p := by rw [hp]; exact nI_clamp (by omega)
  rw [hpc]
  have snd : ∀ kd, kd = (if g_A w 0 p = 6 then 1 else 0) → w_M0_add K kd (g_I w 7) (g_A w 10 i) (g_A w 11 i) (s_A w 12 i (g_I w 17)) (fun r1 u2 => Q () u2) := by
    intro kd hkd
    unfold msq at hQ
    refine m_add (w := s_A w 12 i (g_I w 17)) hc (fun h => ?_) (fun h => ?_) h8
    · rw [if_pos h] at hQ; rw [hkd]; exact hQ
    · rw [if_neg (by omega)] at hQ; exact hQ
  refine ⟨hin, hin, by rw [hp]; exact vp_in_nI hp2 (by omega), fun h => ⟨hin, hin, snd 0 (by rw [if_neg h])⟩, fun h => ⟨hin, hin, snd 1 (by rw [if_pos h])⟩⟩
theorem kd_eq (hL : RL K n bg z w) {p : Nat} (hp : p < n) : (if g_A z 6 p = 4 then (1 : Int32) else 0) = if g_A w 0 p = 6 then 1 else 0 := by
  obtain ⟨-, r⟩ := hL p hp
  rcases r with ⟨r1, -, -, -, ⟨r2, -⟩ | ⟨r2, -⟩⟩ | ⟨r1, r2⟩ | ⟨r1, r2⟩ | ⟨r1, r2⟩ | ⟨r1, r2, -⟩ <;> rw [r1, r2] <;> decide
theorem kd_ne (w : St) (p : Nat) : ¬ (if g_A w 0 p = 6 then (1 : Int32) else 0) = 2 := by split <;> decide
/-- both send the event at place i of the queue again -/
theorem p_send {i : Nat} (h : JP K C T le t n o bg q pl nx cz ep ph lw cut hg ap z w) (hi : i < q) : ∃ (cz' : Nat) (z' w' : St), JP K C T le t n o bg q pl nx cz' ep ph lw cut hg ap z' w' ∧ (∀ Q : Unit → St → Prop, Q () w' → w_M0_send K (nI i) w Q) ∧ (∀ Q : Unit → St → Prop, Q () z' → w_X3_sendQueued K (nI i) z Q) := by
  obtain ⟨hC, hS, hL, hP, hH, hW, hKK⟩ := h
  have hP0 := hP
  have hH0 := hH
  obtain ⟨⟨p1, p2, p3⟩, pq, po, ptm, pf, plast, ⟨pp1, pp2, pp3⟩, pn⟩ := hP0
  obtain ⟨⟨g1, g2, g3⟩, ⟨e1, e2, e3⟩, hpk⟩ := hH0
  obtain ⟨q1, q2, q3, p, q4, q5, q6⟩ := pq i hi
  have hn2 := hS.2.1.2.1
  have hp : p < 160 := by omega
  have hpn : p < n := by omega
  have rpn : RP K C n nx pl q (s_A z 5 i (g_I z 9)) (s_A w 12 i (g_I w 17)) := by
    refine ⟨⟨p1, p2, p3⟩, fun j hj => ?_, po, ptm, pf, plast, ⟨pp1, pp2, pp3⟩, pn⟩
    obtain ⟨c1, c2, c3, c4⟩ := pq j hj
    refine ⟨c1, c2, ?_, c4⟩
    show upd (g_A z 5) i (g_I z 9) j = upd (g_A w 12) i (g_I w 17) j
    rw [upd_at, upd_at, ptm]
    by_cases e : j = i
    · rw [if_pos e, if_pos e]
    · rw [if_neg e, if_neg e]; exact c3
  by_cases hc : cz < 8
  · refine ⟨cz + 1, xsq z cz i p, msq w cz i p, ?_, fun Q hQ => m_sendQ rfl (by omega) g2 g3 q4 hp hQ, fun Q hQ => x_sendQ rfl (by omega) g1 g3 (q1.trans q4) hp hQ⟩
    have em : msq w cz i p = mapp (s_A w 12 i (g_I w 17)) cz (if g_A w 0 p = 6 then 1 else 0) (nI ep) (nI p) (g_A w 11 i) := by
      unfold msq; rw [if_pos hc, e2, q4]
    have ex : xsq z cz i p = s_A (xapp z cz (if g_A w 0 p = 6 then 1 else 0) (nI ep) (nI p) (g_A w 11 i)) 5 i (g_I z 9) := by
      unfold xsq; rw [if_pos hc, kd_eq hL hpn, e1, q1, q4, q2]
    rw [em, ex]
    have hr := rh_add (a := if g_A w 0 p = 6 then 1 else 0) (b := nI ep) (c := nI p) (d := g_A w 11 i) hH hc ⟨ep, Nat.le_refl _, rfl⟩ (fun _ _ => ⟨p, rfl, q6⟩)
    exact ⟨hC, hS, hL, rpn, hr, hW, hKK⟩
  · refine ⟨cz, xsq z cz i p, msq w cz i p, ?_, fun Q hQ => m_sendQ rfl (by omega) g2 g3 q4 hp hQ, fun Q hQ => x_sendQ rfl (by omega) g1 g3 (q1.trans q4) hp hQ⟩
    have em : msq w cz i p = s_A w 12 i (g_I w 17) := by unfold msq; rw [if_neg hc]
    have ex : xsq z cz i p = s_A z 5 i (g_I z 9) := by unfold xsq; rw [if_neg hc]
    rw [em, ex]
    exact ⟨hC, hS, hL, rpn, hH, hW, hKK⟩
theorem p_pass (s0 : Int32) : ∀ (d j : Nat) (r : Int32) (cz : Nat) (z w : St), j + d = q → JP K C T le t n o bg q pl nx cz ep ph lw cut hg ap z w → ∃ (cz' : Nat) (r' : Int32) (z' w' : St), JP K C T le t n o bg q pl nx cz' ep ph lw cut hg ap z' w' ∧ (∀ (k : Int32 → Int32 → Int32 → St → Prop) (Q : Int32 → St → Prop) (v1 v3 : Int32), k v1 (s0 + r') v3 w' → w_M0_tick_35 K k Q (d + 1) v1 (s0 + r) v3 (nI j) w) ∧ (∀ Q : Int32 → St → Prop, Q r' z' → w_X3_passTime_14 K Q (d + 1) r (nI j) z)
  | 0, j, r, cz, z, w, hj, h => by
    have h0 := h
    obtain ⟨hC, hS, hL, ⟨⟨p1, p2, p3⟩, -⟩, -⟩ := h0
    refine ⟨cz, r, z, w, h, fun k Q v1 v3 hk => ?_, fun Q hQ => ?_⟩
    · unfold w_M0_tick_35
      rw [p2]
      exact ⟨fun _ => hk, fun hh => absurd (nI_le (by omega) (by omega)) hh⟩
    · unfold w_X3_passTime_14
      rw [p1]
      exact ⟨fun _ => hQ, fun hh => absurd (nI_le (by omega) (by omega)) hh⟩
  | d + 1, j, r, cz, z, w, hj, h => by
    have h0 := h
    obtain ⟨hC, hS, hL, ⟨⟨p1, p2, p3⟩, pq, po, ptm, -⟩, -⟩ := h0
    obtain ⟨c1, c2, c3, c4, c5, c6, c7, c8, c9, c10⟩ := hC
    have hin : vp_in (nI j) 4 := vp_in_nI (by omega) (by omega)
    have h5 := (pq j (by omega)).2.2.1
    by_cases hlt : (g_I z 9 - g_A z 5 j) < g_I z 7
    · have hlt2 : (g_I w 17 - g_A w 12 j) < g_I w 2 := by rw [← ptm, ← h5, c8, ← c7]; exact hlt
      obtain ⟨cz', r', z', w', hJ, hM, hX⟩ := p_pass s0 d (j + 1) r cz z w (by omega) h
      refine ⟨cz', r', z', w', hJ, fun k Q v1 v3 hk => ?_, fun Q hQ => ?_⟩
      · unfold w_M0_tick_35
        rw [p2, nI_clamp (by omega), nI_1]
        exact ⟨fun hh => absurd hh (nI_ge (by omega) (by omega)), fun _ => ⟨hin, fun _ => hM k Q v1 v3 hk, fun hh => absurd hlt2 hh⟩⟩
      · unfold w_X3_passTime_14
        rw [p1, nI_clamp (by omega), nI_1]
        exact ⟨fun hh => absurd hh (nI_ge (by omega) (by omega)), fun _ => ⟨hin, fun _ => hX Q hQ, fun hh => absurd hlt hh⟩⟩
    · have hlt2 : ¬ (g_I w 17 - g_A w 12 j) < g_I w 2 := by rw [← ptm, ← h5, c8, ← c7]; exact hlt
      obtain ⟨cz1, z1, w1, h1, sM, sX⟩ := p_send (i := j) h (by omega)
      obtain ⟨cz', r', z', w', hJ, hM, hX⟩ := p_pass s0 d (j + 1) (r + 1) cz1 z1 w1 (by omega) h1
      refine ⟨cz', r', z', w', hJ, fun k Q v1 v3 hk => ?_, fun Q hQ => ?_⟩
      · unfold w_M0_tick_35
        rw [p2, nI_clamp (by omega), nI_1]
        refine ⟨fun hh => absurd hh (nI_ge (by omega) (by omega)), fun _ => ⟨hin, fun hh => absurd hh hlt2, fun _ => sM _ ?_⟩⟩
        rw [Int32.add_assoc]
        exact hM k Q v1 v3 hk
      · unfold w_X3_passTime_14
        rw [p1, nI_clamp (by omega), nI_1]
        exact ⟨fun hh => absurd hh (nI_ge (by omega) (by omega)), fun _ => ⟨hin, fun hh => absurd hh hlt, fun _ => sX _ (hX Q hQ)⟩⟩
theorem p_tick : ∀ (d j : Nat) (s0 : Int32) (cz : Nat) (z w : St), j + d ≤ 50 → JP K C T le t n o bg q pl nx cz ep ph lw cut hg ap z w → ∃ (cz' : Nat) (s' : Int32) (z' w' : St), JP K C T le t n o bg q pl nx cz' ep ph lw cut hg ap z' w' ∧ (∀ Q : Int32 → St → Prop, Q s' w' → w_M0_tick_17 K Q (d + 1) (nI (j + d)) s0 (nI j) w) ∧ (∀ Q : Int32 → St → Prop, Q s' z' → w_X0_tick_17 K Q (d + 1) (nI (j + d)) s0 (nI j) z)
  | 0, j, s0, cz, z, w, hj, h => by
    refine ⟨cz, s0, z, w, h, fun Q hQ => ?_, fun Q hQ => ?_⟩
    · unfold w_M0_tick_17
      exact ⟨fun _ => hQ, fun hh => absurd (nI_le (by omega) (by omega)) hh⟩
    · unfold w_X0_tick_17
      exact ⟨fun _ => hQ, fun hh => absurd (nI_le (by omega) (by omega)) hh⟩
  | d + 1, j, s0, cz, z, w, hj, h => by
    have h1 : JP K C T le t n o bg q pl nx cz ep ph lw cut hg ap (s_I z 9 (g_I z 9 + 1)) (s_I w 17 (g_I w 17 + 1)) := by
      obtain ⟨hC, hS, hL, ⟨p1, p2, p3, p4, p5⟩, hH, hW, hKK⟩ := h
      refine ⟨hC, hS, hL, ⟨p1, p2, p3, ?_, p5⟩, hH, hW, hKK⟩
      show g_I z 9 + 1 = g_I w 17 + 1
      rw [p4]
    obtain ⟨cz1, r1, z1, w1, hJ1, pM, pX⟩ := p_pass s0 q 0 0 cz _ _ (by omega) h1
    obtain ⟨cz', s', z', w', hJ, tM, tX⟩ := p_tick d (j + 1) (s0 + r1) cz1 z1 w1 (by omega) hJ1
    rw [show j + 1 + d = j + (d + 1) by omega] at tM tX
    refine ⟨cz', s', z', w', hJ, fun Q hQ => ?_, fun Q hQ => ?_⟩
    · unfold w_M0_tick_17
      refine ⟨fun hh => absurd hh (nI_ge (by omega) (by omega)), fun _ => ⟨q + 1, ?_⟩⟩
      have := pM (fun y1 y2 y3 z3 => w_M0_tick_17 K Q (d + 1) y1 y2 (y3 + 1) z3) Q (nI (j + (d + 1))) (nI j) (by
        show w_M0_tick_17 K Q (d + 1) (nI (j + (d + 1))) (s0 + r1) (nI j + 1) w1
        rw [nI_1]; exact tM Q hQ)
      rw [Int32.add_zero] at this
      exact this
    · unfold w_X0_tick_17 w_X3_passTime
      refine ⟨fun hh => absurd hh (nI_ge (by omega) (by omega)), fun _ => ⟨_, pX _ ?_⟩⟩
      rw [nI_1]
      exact tX Q hQ
theorem o_tick (x1 : Int32) (h : J K C T le t z w) : w_X0_tick K x1 z (fun r u => w_M0_tick K x1 w (fun r' u' => r = r' ∧ J K C T le (t + 1) u u')) := by
  have hJ := J_up h
  unfold w_X0_tick
  refine ⟨fun h1 => ?_, fun h1 => ⟨fun h2 => ?_, fun h2 => ?_⟩⟩
  · unfold w_M0_tick
    exact ⟨fun _ => ⟨rfl, hJ⟩, fun h => absurd h1 h⟩
  · obtain ⟨x, hx, rfl⟩ := nI_of h1
    have hx50 : x ≤ 50 := by
      rw [Int32.le_iff_toInt_le, nI_toInt hx] at h2
      have e : (50 : Int32).toInt = 50 := by decide
      omega
    obtain ⟨n, o, bg, q, pl, nx, cz, ep, ph, lw, cut, hg, ap, hJP⟩ := hJ
    obtain ⟨cz', s', z', w', hJ', tM, tX⟩ := p_tick x 0 0 cz z w (by omega) hJP
    rw [Nat.zero_add] at tM tX
    refine ⟨_, tX _ ?_⟩
    unfold w_M0_tick
    exact ⟨fun h => absurd h h1, fun _ => ⟨fun _ => ⟨_, tM _ ⟨rfl, JP.J hJ'⟩⟩, fun h => absurd h2 h⟩⟩
  · unfold w_M0_tick
    exact ⟨fun h => absurd h h1, fun _ => ⟨fun h => absurd h h2, fun _ => ⟨rfl, hJ⟩⟩⟩
end TK
