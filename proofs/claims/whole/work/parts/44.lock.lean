/-! locks and changes -/
theorem rl_who {K n bg : Nat} {z w : St} (hL : RL K n bg z w) {i : Nat} (hi : i < n) (h : g_A w 0 i = 1 ∨ g_A w 0 i = 2) : (∃ m, m < bg ∧ g_A w 1 i = nI m) ∧ (∃ k, k < K ∧ g_A w 2 i = nI k) ∧ g_A z 6 i = 0 ∧ g_A z 8 i = g_A w 2 i ∧ g_L z 4 i = mdw w i ∧ (mdw w i = -1 ∨ ¬ mdw w i < 0) := by
  obtain ⟨r0, r1⟩ := hL i hi
  rcases r1 with ⟨r1, r2, r3, r4, r5⟩ | ⟨-, r2⟩ | ⟨-, r2⟩ | ⟨-, r2⟩ | ⟨-, r2, -⟩
  · refine ⟨r4, r3, r1, r2, ?_⟩
    rcases r5 with ⟨e1, e2, e3⟩ | ⟨e1, e2⟩
    · have em : mdw w i = rw_ (g_A w 3 i) (g_A w 4 i) := if_pos e1
      rw [em]
      exact ⟨e2, Or.inr (rw_nn e3)⟩
    · have em : mdw w i = -1 := if_neg (by rw [e1]; decide)
      rw [em]
      exact ⟨e2, Or.inl rfl⟩
  all_goals (rw [r2] at h; exact absurd h (by decide))
theorem lb_neg {K n bg : Nat} {z w : St} (hL : RL K n bg z w) (hb : bg < 1000) {k : Int32} {p : Nat} (hp : p ≤ n) : lbw w (-1) k p = none := by
  cases hl : lbw w (-1) k p with
  | none => rfl
  | some i =>
    obtain ⟨l1, l2, l3, l4⟩ := lb_lt hl
    obtain ⟨⟨m, m1, m2⟩, -⟩ := rl_who hL (by omega) l4
    rw [m2] at l2
    exact absurd l2 (i_ne_m1 (by omega))
theorem md_ok {K n bg : Nat} {z w : St} (hL : RL K n bg z w) {m k : Int32} {p i : Nat} (hp : p ≤ n) (h : lbw w m k p = some i) : mdw w i = -1 ∨ ¬ mdw w i < 0 := by
  obtain ⟨l1, l2, l3, l4⟩ := lb_lt h
  exact (rl_who hL (by omega) l4).2.2.2.2.2
theorem row0_nn {k : Nat} (hk : k < 12) : ¬ row0 (nI k) < 0 := by
  unfold row0
  refine rw_nn ⟨k % 4, by omega, ?_⟩
  have e4 : (4 : Int32) = nI 4 := rfl
  rw [e4, pk_rem (by omega) (by omega) (by omega)]
theorem tb_ok {K n bg : Nat} {z w : St} (hL : RL K n bg z w) (hK : K ≤ 12) {k : Nat} (hk : k < K) : ∀ p, p ≤ n → tbw w (nI k) p = -1 ∨ ¬ tbw w (nI k) p < 0
  | 0, _ => Or.inr (row0_nn (by omega))
  | p + 1, hp => by
    have ih := tb_ok hL hK hk p (by omega)
    by_cases h3 : g_A w 0 p = 3
    · have e : tbw w (nI k) (p + 1) = (match lbw w (g_A w 1 p) (nI k) p with
        | some i => mdw w i
        | none => tbw w (nI k) p) := if_pos h3
      rw [e]
      cases hl : lbw w (g_A w 1 p) (nI k) p with
      | none => exact ih
      | some i => exact md_ok hL (by omega) hl
    · have e : tbw w (nI k) (p + 1) = tbw w (nI k) p := if_neg h3
      rw [e]; exact ih
theorem ne2 {r : Int64} (h : r = -1 ∨ ¬ r < 0) : ¬ r = -2 := by
  rcases h with h | h
  · rw [h]; decide
  · intro e; rw [e] at h; exact h (by decide)
theorem rs_lock {K n o bg : Nat} {z z' w w' : St} {x : Int32} {j k : Nat} (h : RS K n o bg z w) (hL : RL K n bg z w) (hj : j < o) (hx : g_A w 8 j = x) (hk : k < K) (hlk : g_A w 9 k = -1 ∨ g_A w 9 k = x)
    (z19 : g_I z' 19 = g_I z 19) (z1 : g_I z' 1 = g_I z 1) (z2 : g_I z' 2 = g_I z 2) (zA0 : g_A z' 0 = upd (g_A z 0) k x) (zA1 : g_A z' 1 = g_A z 1) (zL0 : g_L z' 0 = g_L z 0) (zL1 : g_L z' 1 = g_L z 1)
    (w4 : g_I w' 4 = g_I w 4) (w6 : g_I w' 6 = g_I w 6) (w5 : g_I w' 5 = g_I w 5) (w8 : g_A w' 8 = g_A w 8) (w9 : g_A w' 9 = upd (g_A w 9) k x) (hA : Ag n w w') : RS K n o bg z' w' := by
  obtain ⟨a, ⟨b1, b2, b3⟩, s1, s2, s3, s4, s5, s6⟩ := h
  unfold RS
  rw [z19, z1, z2, zA0, zA1, zL0, zL1, w4, w6, w5, w8, w9]
  refine ⟨a, ⟨b1, b2, b3⟩, s1, s2, fun k' hk' => ?_, fun k' hk' => ?_, fun k' hk' => ?_, fun j' k' hj' hk' e => ?_⟩
  · rw [upd_at, upd_at]
    by_cases e : k' = k
    · rw [if_pos e, if_pos e]; exact ⟨rfl, Or.inr ⟨j, hj, hx.symm⟩⟩
    · rw [if_neg e, if_neg e]; exact s3 k' hk'
  · rw [ag_tb hA (Nat.le_refl _)]; exact s4 k' hk'
  · rw [upd_at]
    by_cases e : k' = k
    · rw [if_pos e]
      subst e
      rw [ag_lb hA (Nat.le_refl _)]
      have h5 := s5 k' hk'
      rcases hlk with hlk | hlk
      · rw [hlk, lb_neg hL (by omega) (Nat.le_refl _)] at h5
        have hn : lbw w x (nI k') n = none := by
          cases hl : lbw w x (nI k') n with
          | none => rfl
          | some i =>
            have := s6 j k' hj hk' (by rw [hx, hl]; exact fun h => by cases h)
            rw [hlk, hx] at this
            obtain ⟨-, m, m1, m2⟩ := s1 j hj
            rw [hx] at m2
            rw [m2] at this
            exact absurd this.symm (i_ne_m1 (by omega))
        rw [hn]; exact h5
      · rw [hlk] at h5
        rw [h5]
        cases hl : lbw w x (nI k') n with
        | none => rfl
        | some i => exact (ag_md hA (lb_lt hl).1).symm
    · rw [if_neg e, ag_lb hA (Nat.le_refl _)]
      rw [s5 k' hk']
      cases hl : lbw w (g_A w 9 k') (nI k') n with
      | none => rfl
      | some i => exact (ag_md hA (lb_lt hl).1).symm
  · rw [ag_lb hA (Nat.le_refl _)] at e
    have h6 := s6 j' k' hj' hk' e
    rw [upd_at]
    by_cases e2 : k' = k
    · rw [if_pos e2]
      subst e2
      rw [h6] at hlk
      rcases hlk with hlk | hlk
      · obtain ⟨-, m, m1, m2⟩ := s1 j' hj'
        rw [m2] at hlk
        exact absurd hlk (i_ne_m1 (by omega))
      · exact hlk.symm
    · rw [if_neg e2]; exact h6
theorem lb_succ_ne {w : St} {m k : Int32} {p : Nat} (h : ¬ (g_A w 1 p = m ∧ g_A w 2 p = k ∧ (g_A w 0 p = 1 ∨ g_A w 0 p = 2))) : lbw w m k (p + 1) = lbw w m k p := if_neg h
theorem lb_succ_eq {w : St} {m k : Int32} {p : Nat} (h : g_A w 1 p = m ∧ g_A w 2 p = k ∧ (g_A w 0 p = 1 ∨ g_A w 0 p = 2)) : lbw w m k (p + 1) = some p := if_pos h
theorem tb_succ_ne {w : St} {k : Int32} {p : Nat} (h : ¬ g_A w 0 p = 3) : tbw w k (p + 1) = tbw w k p := if_neg h
theorem rs_change {K n o bg : Nat} {z z' w w' : St} {x : Int32} {j k : Nat} {row : Int64} (h : RS K n o bg z w) (hL : RL K n bg z w) (hj : j < o) (hx : g_A w 8 j = x) (hK : K ≤ 12) (hk : k < K) (hlk : g_A w 9 k = -1 ∨ g_A w 9 k = x) (hroom : n + 1 + o ≤ 160)
    (z19 : g_I z' 19 = nI (n + 1)) (z1 : g_I z' 1 = g_I z 1) (z2 : g_I z' 2 = g_I z 2) (zA0 : g_A z' 0 = upd (g_A z 0) k x) (zA1 : g_A z' 1 = g_A z 1) (zL0 : g_L z' 0 = g_L z 0) (zL1 : g_L z' 1 = vp_updL (g_L z 1) k row)
    (w4 : g_I w' 4 = nI (n + 1)) (w6 : g_I w' 6 = g_I w 6) (w5 : g_I w' 5 = g_I w 5) (w8 : g_A w' 8 = g_A w 8) (w9 : g_A w' 9 = upd (g_A w 9) k x) (hA : Ag n w w') (e0 : g_A w' 0 n = 1 ∨ g_A w' 0 n = 2) (e1 : g_A w' 1 n = x) (e2 : g_A w' 2 n = nI k) (em : mdw w' n = row) : RS K (n + 1) o bg z' w' := by
  obtain ⟨⟨a1, a2, a3, a4, a5, a6⟩, ⟨b1, b2, b3⟩, s1, s2, s3, s4, s5, s6⟩ := h
  have h3 : ¬ g_A w' 0 n = 3 := by rcases e0 with e | e <;> rw [e] <;> decide
  unfold RS
  rw [z19, z1, z2, zA0, zA1, zL0, zL1, w4, w6, w5, w8, w9]
  refine ⟨⟨rfl, rfl, a3, a4, a5, a6⟩, ⟨b1, by omega, by omega⟩, s1, s2, fun k' hk' => ?_, fun k' hk' => ?_, fun k' hk' => ?_, fun j' k' hj' hk' e => ?_⟩
  · rw [upd_at, upd_at]
    by_cases e : k' = k
    · rw [if_pos e, if_pos e]; exact ⟨rfl, Or.inr ⟨j, hj, hx.symm⟩⟩
    · rw [if_neg e, if_neg e]; exact s3 k' hk'
  · rw [tb_succ_ne h3, ag_tb hA (Nat.le_refl _)]; exact s4 k' hk'
  · rw [upd_at, updL_at]
    by_cases e : k' = k
    · rw [if_pos e, if_pos e]
      subst e
      rw [lb_succ_eq ⟨e1, e2, e0⟩]
      exact em.symm
    · rw [if_neg e, if_neg e, lb_succ_ne (fun hh => e (by have := hh.2.1; rw [e2, nI_eq (by omega) (by omega)] at this; exact this.symm)), ag_lb hA (Nat.le_refl _)]
      rw [s5 k' hk']
      cases hl : lbw w (g_A w 9 k') (nI k') n with
      | none => rfl
      | some i => exact (ag_md hA (lb_lt hl).1).symm
  · rw [upd_at]
    by_cases e3 : k' = k
    · rw [if_pos e3]
      by_cases e4 : g_A w 8 j' = x
      · exact e4.symm
      · rw [lb_succ_ne (fun hh => e4 (by rw [← hh.1, e1])), ag_lb hA (Nat.le_refl _)] at e
        have h6 := s6 j' k' hj' hk' e
        rw [e3] at h6
        rw [h6] at hlk
        rcases hlk with hlk | hlk
        · obtain ⟨-, m, m1, m2⟩ := s1 j' hj'
          rw [m2] at hlk
          exact absurd hlk (i_ne_m1 (by omega))
        · exact absurd hlk e4
    · rw [if_neg e3]
      rw [lb_succ_ne (fun hh => e3 (by have := hh.2.1; rw [e2, nI_eq (by omega) (by omega)] at this; exact this.symm)), ag_lb hA (Nat.le_refl _)] at e
      exact s6 j' k' hj' hk' e
/-- the log's relation with one entry more -/
theorem rl_grow {K n bg bg' : Nat} {z z' w w' : St} (hL : RL K n bg z w) (hb : bg ≤ bg') (hA : Ag n w w') (hz : ∀ i, i < n → g_A z' 6 i = g_A z 6 i ∧ g_A z' 7 i = g_A z 7 i ∧ g_A z' 8 i = g_A z 8 i ∧ g_L z' 4 i = g_L z 4 i) (hn : RLi K bg' z' w' n) : RL K (n + 1) bg' z' w' := by
  intro i hi
  rcases Nat.lt_succ_iff_lt_or_eq.mp hi with h | h
  · obtain ⟨r0, r1⟩ := hL i h
    obtain ⟨q6, q7, q8, q4⟩ := hz i h
    obtain ⟨a0, a1, a2, a3, a4, a5, a6, a7⟩ := hA i h
    unfold RLi
    rw [q6, q7, q8, q4, a0, a1, a2, a3, a4, a5, a6, a7]
    refine ⟨r0, ?_⟩
    rcases r1 with ⟨r1, r2, r3, ⟨m, m1, m2⟩, r5⟩ | r1
    · exact Or.inl ⟨r1, r2, r3, ⟨m, by omega, m2⟩, r5⟩
    · exact Or.inr r1
  · subst h; exact hn
theorem upd_lt {f : Nat → Int32} {n i : Nat} {v : Int32} (h : i < n) : upd f n v i = f i := by rw [upd_at, if_neg (by omega)]
theorem updL_lt {f : Nat → Int64} {n i : Nat} {v : Int64} (h : i < n) : vp_updL f n v i = f i := by rw [updL_at, if_neg (by omega)]
/-- everything but the source, when the log grows -/
theorem J_grow {K C T n n' o bg q pl nx cz ep ph lw cut hg ap t : Nat} {le : Int32} {z z' w w' : St} (hX : SX z z') (hM : SM w w') (hA : Ag n w w') (hn : n ≤ n') (hn2 : n ≤ 160) {bg0 : Nat} (hL0 : RL K n bg0 z w) (hC : RC K C T le z w) (hP : RP K C n nx pl q z w) (hH : RH K C n nx cz ep t z w) (hW : RW K C n nx pl ph lw cut hg z w) (hK : RK K C n nx ap le z w) (hS : RS K n' o bg z' w') (hL : RL K n' bg z' w') : J K C T le t z' w' :=
  ⟨n', o, bg, q, pl, nx, cz, ep, ph, lw, cut, hg, ap, gr_C hX hM hC, hS, hL, gr_P hX hM hA hn hP, gr_H hX hM hA hn hH, gr_W hX hM hA hn hP.2.2.2.2.2.2.1.2.2 hW, gr_K hX hM hA hn hn2 hL0 hK⟩
section OP
variable {K C T : Nat} {le : Int32} {t : Nat} {z w : St}
theorem lkv {n o bg : Nat} (hS : RS K n o bg z w) {k : Nat} (hk : k < K) : g_A w 9 k = -1 ∨ ∃ m, m < 1000 ∧ g_A w 9 k = nI m := by
  obtain ⟨-, ⟨b1, b2, b3⟩, s1, -, s3, -⟩ := hS
  rcases (s3 k hk).2 with h | ⟨j, j1, j2⟩
  · exact Or.inl h
  · obtain ⟨-, m, m1, m2⟩ := s1 j j1
    exact Or.inr ⟨m, by omega, j2.trans m2⟩
theorem opn {n o bg : Nat} (hS : RS K n o bg z w) {x : Int32} : (∃ j, j < o ∧ g_A z 1 j = x) ↔ ∃ j, j < o ∧ g_A w 8 j = x := by
  obtain ⟨-, -, s1, -⟩ := hS
  constructor
  · rintro ⟨j, h1, h2⟩; exact ⟨j, h1, (s1 j h1).1.symm.trans h2⟩
  · rintro ⟨j, h1, h2⟩; exact ⟨j, h1, (s1 j h1).1.trans h2⟩
theorem o_lock (hK : K ≤ 12) (x1 x2 : Int32) (h : J K C T le t z w) : w_X0_lock K x1 x2 z (fun r u => w_M0_lock K x1 x2 w (fun r' u' => r = r' ∧ J K C T le (t + 1) u u')) := by
  have h2 := J_up h
  obtain ⟨n, o, bg, q, pl, nx, cz, ep, ph, lw, cut, hg, ap, hC, hS, hL, hP, hH, hW, hKK⟩ := h2
  have hJ : J K C T le (t + 1) z w := ⟨n, o, bg, q, pl, nx, cz, ep, ph, lw, cut, hg, ap, hC, hS, hL, hP, hH, hW, hKK⟩
  have hS0 := hS
  obtain ⟨⟨a1, a2, a3, a4, a5, a6⟩, ⟨b1, b2, b3⟩, s1, s2, s3, s4, s5, s6⟩ := hS0
  unfold w_X0_lock
  refine x_refusal hC.1 hK a3 b1 (fun hb => ⟨fun h => absurd h (by decide), fun _ => ?_⟩) (fun k hk e ho hl1 hl2 => ⟨fun h => absurd h (by decide), fun _ => ?_⟩) (fun k hk e ho hl => ⟨fun _ => ?_, fun h => absurd rfl h⟩)
  · unfold w_M0_lock
    refine m_isOpen a4 b1 (fun ho => ⟨fun h => absurd h (by decide), fun _ => ?_⟩) (fun _ => ⟨fun _ => ⟨rfl, hJ⟩, fun h => absurd rfl h⟩)
    refine m_isKey hC.2.1 hK (fun k hk e => absurd ⟨(opn hS).mpr ho, k, hk, e⟩ hb) (fun _ => ⟨fun h => absurd rfl h, fun _ => ⟨rfl, hJ⟩⟩)
  · rw [(s3 k hk).1] at hl1 hl2
    unfold w_M0_lock
    refine m_isOpen a4 b1 (fun _ => ⟨fun h => absurd h (by decide), fun _ => ?_⟩) (fun hn => by obtain ⟨j, j1, j2⟩ := (opn hS).mp ho; exact absurd j2 (hn j j1))
    refine m_isKey hC.2.1 hK (fun k' hk' e' => ⟨fun _ => ?_, fun h => absurd h (by decide)⟩) (fun hn => absurd e (hn k hk))
    refine m_lockedFor (k := k) (by omega) e (lkv hS hk) (fun h => by rcases h with h | h; exact absurd h hl1; exact absurd h hl2) (fun _ _ => ⟨fun h => absurd h (by decide), fun _ => ⟨rfl, hJ⟩⟩)
  · rw [(s3 k hk).1] at hl
    obtain ⟨j, j1, j2⟩ := (opn hS).mp ho
    subst e
    unfold w_X1_takeLock
    rw [nI_clamp (by omega)]
    refine ⟨vp_in_nI hk (by omega), ?_⟩
    unfold w_M0_lock
    refine m_isOpen a4 b1 (fun _ => ⟨fun h => absurd h (by decide), fun _ => ?_⟩) (fun hn => absurd j2 (hn j j1))
    refine m_isKey hC.2.1 hK (fun k' hk' e' => ⟨fun _ => ?_, fun h => absurd h (by decide)⟩) (fun hn => absurd rfl (hn k hk))
    refine m_lockedFor (k := k) (by omega) rfl (lkv hS hk) (fun _ => ⟨fun _ => ⟨vp_in_nI (by omega) (by omega), ?_⟩, fun h => absurd rfl h⟩) (fun h1 h2 => by rcases hl with h | h; exact absurd h h1; exact absurd h h2)
    rw [nI_clamp (by omega)]
    have hA : Ag n w (s_A w 9 k x1) := fun i hi => ⟨rfl, rfl, rfl, rfl, rfl, rfl, rfl, rfl⟩
    exact ⟨rfl, J_grow (z := z) (w := w) ⟨rfl, rfl, rfl, rfl, rfl, rfl, rfl, rfl, rfl, rfl, rfl, rfl, rfl, rfl, rfl, rfl, rfl, rfl, rfl, rfl, rfl, rfl, rfl, rfl, rfl, rfl, rfl, rfl⟩ ⟨rfl, rfl, rfl, rfl, rfl, rfl, rfl, rfl, rfl, rfl, rfl, rfl, rfl, rfl, rfl, rfl, rfl, rfl, rfl, rfl, rfl, rfl, rfl, rfl, rfl, rfl⟩ hA (Nat.le_refl _) (by omega) hL hC hP hH hW hKK (rs_lock hS hL j1 j2 hk hl rfl rfl rfl rfl rfl rfl rfl rfl rfl rfl rfl rfl hA) hL⟩
end OP
