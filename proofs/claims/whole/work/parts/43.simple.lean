/-! small methods of both sides; the reads, begin, lock -/
section SI
variable {K : Nat} {z w : St} {x x1 x2 : Int32}
theorem x_isKey {Q : Int32 → St → Prop} (h0 : g_I z 0 = nI K) (hK : K ≤ 12) (hy : ∀ k, k < K → x = nI k → Q 1 z) (hn : (∀ k, k < K → ¬ x = nI k) → Q 0 z) : w_X0_isKey K x z Q := by
  unfold w_X0_isKey
  rw [h0]
  rcases pk_ix x (n := K) (by omega) with h | h | ⟨j, hj, rfl⟩
  · have hno : ∀ k, k < K → ¬ x = nI k := fun k hk e => by rw [e] at h; exact absurd h (nI_pos (by omega))
    exact ⟨fun _ => hn hno, fun h2 => absurd h h2⟩
  · have hno : ∀ k, k < K → ¬ x = nI k := fun k hk e => by rw [e] at h; exact absurd h (nI_ge hk (by omega))
    exact ⟨fun _ => hn hno, fun _ => ⟨fun _ => hn hno, fun h2 => absurd h h2⟩⟩
  · exact ⟨fun h => absurd h (nI_pos (by omega)), fun _ => ⟨fun h => absurd h (nI_ge hj (by omega)), fun _ => hy j hj rfl⟩⟩
theorem m_isKey {Q : Int32 → St → Prop} (h0 : g_I w 0 = nI K) (hK : K ≤ 12) (hy : ∀ k, k < K → x = nI k → Q 1 w) (hn : (∀ k, k < K → ¬ x = nI k) → Q 0 w) : w_M0_isKey K x w Q := by
  unfold w_M0_isKey
  rw [h0]
  rcases pk_ix x (n := K) (by omega) with h | h | ⟨j, hj, rfl⟩
  · have hno : ∀ k, k < K → ¬ x = nI k := fun k hk e => by rw [e] at h; exact absurd h (nI_pos (by omega))
    exact ⟨fun _ => hn hno, fun h2 => absurd h h2⟩
  · have hno : ∀ k, k < K → ¬ x = nI k := fun k hk e => by rw [e] at h; exact absurd h (nI_ge hk (by omega))
    exact ⟨fun _ => hn hno, fun _ => ⟨fun _ => hn hno, fun h2 => absurd h h2⟩⟩
  · exact ⟨fun h => absurd h (nI_pos (by omega)), fun _ => ⟨fun h => absurd h (nI_ge hj (by omega)), fun _ => hy j hj rfl⟩⟩
theorem x_slotOf_2 {Q : Int32 → St → Prop} {o : Nat} (ho : g_I z 1 = nI o) (ho4 : o ≤ 4) (hy : ∀ j, j < o → g_A z 1 j = x → (∀ i, i < j → ¬ g_A z 1 i = x) → Q (nI j) z) (hn : (∀ j, j < o → ¬ g_A z 1 j = x) → Q (-1) z) : ∀ d j, j + d = o → (∀ i, i < j → ¬ g_A z 1 i = x) → w_X1_slotOf_2 K Q (d + 1) x (nI j) z
  | 0, j, hj, hp => by
    unfold w_X1_slotOf_2
    rw [ho]
    exact ⟨fun _ => hn (fun i hi => hp i (by omega)), fun h => absurd (nI_le (by omega) (by omega)) h⟩
  | d + 1, j, hj, hp => by
    unfold w_X1_slotOf_2
    rw [ho, nI_clamp (by omega), nI_1]
    refine ⟨fun h => absurd h (nI_ge (by omega) (by omega)), fun _ => ⟨vp_in_nI (by omega) (by omega), fun h => ?_, fun h => hy j (by omega) h hp⟩⟩
    exact x_slotOf_2 ho ho4 hy hn d (j + 1) (by omega) (fun i hi => by
      rcases Nat.lt_succ_iff_lt_or_eq.mp hi with h1 | h1
      · exact hp i h1
      · subst h1; exact h)
theorem x_slotOf {Q : Int32 → St → Prop} {o : Nat} (ho : g_I z 1 = nI o) (ho4 : o ≤ 4) (hy : ∀ j, j < o → g_A z 1 j = x → (∀ i, i < j → ¬ g_A z 1 i = x) → Q (nI j) z) (hn : (∀ j, j < o → ¬ g_A z 1 j = x) → Q (-1) z) : w_X1_slotOf K x z Q :=
  ⟨_, x_slotOf_2 ho ho4 hy hn o 0 (by omega) (fun i hi => by omega)⟩
theorem x_isOpen {Q : Int32 → St → Prop} {o : Nat} (ho : g_I z 1 = nI o) (ho4 : o ≤ 4) (hy : (∃ j, j < o ∧ g_A z 1 j = x) → Q 1 z) (hn : (∀ j, j < o → ¬ g_A z 1 j = x) → Q 0 z) : w_X1_isOpen K x z Q := by
  unfold w_X1_isOpen
  refine x_slotOf ho ho4 (fun j hj e _ => ⟨fun h => absurd h (i_ne_m1 (by omega)), fun _ => hy ⟨j, hj, e⟩⟩) (fun h => ⟨fun _ => hn h, fun h2 => absurd rfl h2⟩)
theorem m_isOpen_4 {Q : Int32 → St → Prop} {o : Nat} (ho : g_I w 6 = nI o) (ho4 : o ≤ 4) (hy : (∃ j, j < o ∧ g_A w 8 j = x) → Q 1 w) (hn : (∀ j, j < o → ¬ g_A w 8 j = x) → Q 0 w) : ∀ d j b, j + d = o → ((b = 1 ∧ ∃ i, i < j ∧ g_A w 8 i = x) ∨ (b = 0 ∧ ∀ i, i < j → ¬ g_A w 8 i = x)) → w_M0_isOpen_4 K Q (d + 1) x b (nI j) w
  | 0, j, b, hj, hb => by
    unfold w_M0_isOpen_4
    rw [ho]
    refine ⟨fun _ => ?_, fun h => absurd (nI_le (by omega) (by omega)) h⟩
    rcases hb with ⟨rfl, i, h1, h2⟩ | ⟨rfl, h1⟩
    · exact ⟨nar1, hy ⟨i, by omega, h2⟩⟩
    · exact ⟨nar0, hn (fun i hi => h1 i (by omega))⟩
  | d + 1, j, b, hj, hb => by
    unfold w_M0_isOpen_4
    rw [ho, nI_clamp (by omega), nI_1]
    refine ⟨fun h => absurd h (nI_ge (by omega) (by omega)), fun _ => ⟨fun h => ?_, fun h => ⟨vp_in_nI (by omega) (by omega), fun h1 => ?_, fun h1 => ?_⟩⟩⟩
    · rcases hb with ⟨rfl, i, h1, h2⟩ | ⟨rfl, h1⟩
      · exact m_isOpen_4 ho ho4 hy hn d (j + 1) 1 (by omega) (Or.inl ⟨rfl, i, by omega, h2⟩)
      · exact absurd rfl h
    · rcases hb with ⟨rfl, i, h2, h3⟩ | ⟨rfl, h2⟩
      · exact absurd h (by decide)
      · exact m_isOpen_4 ho ho4 hy hn d (j + 1) 0 (by omega) (Or.inr ⟨rfl, fun i hi => by
          rcases Nat.lt_succ_iff_lt_or_eq.mp hi with h4 | h4
          · exact h2 i h4
          · subst h4; exact h1⟩)
    · exact m_isOpen_4 ho ho4 hy hn d (j + 1) 1 (by omega) (Or.inl ⟨rfl, j, by omega, h1⟩)
theorem m_isOpen {Q : Int32 → St → Prop} {o : Nat} (ho : g_I w 6 = nI o) (ho4 : o ≤ 4) (hy : (∃ j, j < o ∧ g_A w 8 j = x) → Q 1 w) (hn : (∀ j, j < o → ¬ g_A w 8 j = x) → Q 0 w) : w_M0_isOpen K x w Q :=
  ⟨_, m_isOpen_4 ho ho4 hy hn o 0 0 (by omega) (Or.inr ⟨rfl, fun i hi => by omega⟩)⟩
theorem room_iff {n o e m : Nat} (hn : n ≤ 160) (ho : o ≤ 4) (he : e ≤ 1) (hm : m ≤ 1) : ((160 - nI n) - nI e) < (nI o + nI m) ↔ 160 < n + e + o + m := by
  have e160 : (160 : Int32).toInt = 160 := by decide
  have en := nI_toInt (n := n) (by omega)
  have ee := nI_toInt (n := e) (by omega)
  have s1 : (160 - nI n).toInt = 160 - n := by rw [i_sub_toInt (by omega) (by omega), e160, en]
  have s2 : ((160 - nI n) - nI e).toInt = 160 - n - e := by rw [i_sub_toInt (by omega) (by omega), s1, ee]
  rw [Int32.lt_iff_toInt_lt, s2, nI_add, nI_toInt (by omega)]
  omega
theorem x_hasRoom {Q : Int32 → St → Prop} {n o : Nat} (e m : Nat) (h1 : g_I z 19 = nI n) (h2 : g_I z 1 = nI o) (hn : n ≤ 160) (ho : o ≤ 4) (he : e ≤ 1) (hm : m ≤ 1) (e1 : x1 = nI e) (e2 : x2 = nI m) (hy : n + e + o + m ≤ 160 → Q 1 z) (hno : 160 < n + e + o + m → Q 0 z) : w_X1_hasRoom K x1 x2 z Q := by
  subst e1; subst e2
  unfold w_X1_hasRoom
  rw [h1, h2, room_iff hn ho he hm]
  exact ⟨hno, fun h => hy (by omega)⟩
theorem m_room {Q : Int32 → St → Prop} {n o : Nat} (e m : Nat) (h1 : g_I w 4 = nI n) (h2 : g_I w 6 = nI o) (hn : n ≤ 160) (ho : o ≤ 4) (he : e ≤ 1) (hm : m ≤ 1) (e1 : x1 = nI e) (e2 : x2 = nI m) (hy : n + e + o + m ≤ 160 → Q 1 w) (hno : 160 < n + e + o + m → Q 0 w) : w_M0_room K x1 x2 w Q := by
  subst e1; subst e2
  unfold w_M0_room
  rw [h1, h2, room_iff hn ho he hm]
  exact ⟨hno, fun h => hy (by omega)⟩
theorem x_refusal {Q : Int32 → St → Prop} {o : Nat} (h0 : g_I z 0 = nI K) (hK : K ≤ 12) (ho : g_I z 1 = nI o) (ho4 : o ≤ 4) (hb : ¬ ((∃ j, j < o ∧ g_A z 1 j = x1) ∧ ∃ k, k < K ∧ x2 = nI k) → Q (-2) z) (hl : ∀ k, k < K → x2 = nI k → (∃ j, j < o ∧ g_A z 1 j = x1) → ¬ g_A z 0 k = -1 → ¬ g_A z 0 k = x1 → Q (-3) z) (hy : ∀ k, k < K → x2 = nI k → (∃ j, j < o ∧ g_A z 1 j = x1) → (g_A z 0 k = -1 ∨ g_A z 0 k = x1) → Q 0 z) : w_X0_refusalOf K x1 x2 z Q := by
  unfold w_X0_refusalOf
  refine x_isOpen ho ho4 (fun ha => ⟨fun h => absurd h (by decide), fun _ => ?_⟩) (fun ha => ⟨fun _ => hb (fun h => by obtain ⟨⟨j, h1, h2⟩, -⟩ := h; exact ha j h1 h2), fun h => absurd rfl h⟩)
  refine x_isKey h0 hK (fun k hk e => ⟨fun _ => ?_, fun h => absurd h (by decide)⟩) (fun hn => ⟨fun h => absurd rfl h, fun _ => hb (fun h => by obtain ⟨-, k, h1, h2⟩ := h; exact hn k h1 h2)⟩)
  subst e
  unfold w_X1_isLockedByOther
  rw [nI_clamp (by omega)]
  have hin : vp_in (nI k) K := vp_in_nI hk (by omega)
  refine ⟨hin, fun h => ⟨fun _ => hy k hk rfl ha (Or.inl h), fun h2 => absurd rfl h2⟩, fun h => ⟨hin, fun h2 => ⟨fun _ => hy k hk rfl ha (Or.inr h2), fun h3 => absurd rfl h3⟩, fun h2 => ⟨fun h3 => absurd h3 (by decide), fun _ => hl k hk rfl ha h h2⟩⟩⟩
/-- the reference's lockedFor, over a lock that is none or not negative -/
theorem m_lockedFor {Q : Int32 → St → Prop} {k : Nat} (hk : k < 12) (e : x2 = nI k) (hv : g_A w 9 k = -1 ∨ ∃ m, m < 1000 ∧ g_A w 9 k = nI m) (hy : (g_A w 9 k = -1 ∨ g_A w 9 k = x1) → Q 0 w) (hl : ¬ g_A w 9 k = -1 → ¬ g_A w 9 k = x1 → Q 1 w) : w_M0_lockedFor K x1 x2 w Q := by
  subst e
  unfold w_M0_lockedFor
  rw [nI_clamp (by omega)]
  have hin : vp_in (nI k) 12 := vp_in_nI hk (by omega)
  refine ⟨hin, fun h => hy (Or.inl ?_), fun h => ⟨hin, fun h2 => hy (Or.inr h2), fun h2 => hl (fun h3 => ?_) h2⟩⟩
  · rcases hv with h1 | ⟨m, hm, h1⟩
    · exact h1
    · rw [h1] at h; exact absurd h (nI_pos (by omega))
  · rw [h3] at h; exact absurd (show (-1 : Int32) < 0 by decide) h
end SI
section OP
variable {K C T : Nat} {le : Int32} {t : Nat} {z w : St}
theorem o_waiting (h : J K C T le t z w) : w_X0_waiting K z (fun r u => w_M0_waiting K w (fun r' u' => r = r' ∧ J K C T le (t + 1) u u')) := by
  have h2 := J_up h
  obtain ⟨n, o, bg, q, pl, nx, cz, ep, ph, lw, cut, hg, ap, h1, hS, hL, ⟨⟨a1, a2, -⟩, -⟩, -⟩ := h
  exact ⟨a1.trans a2.symm, h2⟩
theorem o_flight (h : J K C T le t z w) : w_X0_flight K z (fun r u => w_M0_flight K w (fun r' u' => r = r' ∧ J K C T le (t + 1) u u')) := by
  have h2 := J_up h
  obtain ⟨n, o, bg, q, pl, nx, cz, ep, ph, lw, cut, hg, ap, h1, hS, hL, hP, ⟨⟨a1, a2, -⟩, -⟩, -⟩ := h
  exact ⟨a1.trans a2.symm, h2⟩
theorem o_position (h : J K C T le t z w) : w_X0_position K z (fun r u => w_M0_position K w (fun r' u' => r = r' ∧ J K C T le (t + 1) u u')) := by
  have h2 := J_up h
  obtain ⟨n, o, bg, q, pl, nx, cz, ep, ph, lw, cut, hg, ap, h1, hS, hL, hP, hH, hW, ⟨⟨a1, a2, a3⟩, -⟩⟩ := h
  unfold w_X0_position
  exact m_position a1 a2 ⟨a3, h2⟩
theorem o_progress (hK : K ≤ 12) (hC : C ≤ 6) (h : J K C T le t z w) : w_X0_progress K z (fun r u => w_M0_progress K w (fun r' u' => r = r' ∧ J K C T le (t + 1) u u')) := by
  have h2 := J_up h
  obtain ⟨n, o, bg, q, pl, nx, cz, ep, ph, lw, cut, hg, ap, ⟨c1, c2, c3, c4, c5, -⟩, ⟨-, ⟨-, s2, -⟩, -⟩, hL, hP, hH, hW, ⟨⟨a1, a2, a3⟩, b, -, d, -⟩⟩ := h
  exact m_progress a1 a2 c5 hC c2 hK (fun j hj => by obtain ⟨e, e1, -, e3, -⟩ := b j hj; exact ⟨e, e1, by omega⟩) ⟨d, h2⟩
theorem o_begin (h : J K C T le t z w) : w_X0_begin K z (fun r u => w_M0_begin K w (fun r' u' => r = r' ∧ J K C T le (t + 1) u u')) := by
  have h2 := J_up h
  obtain ⟨n, o, bg, q, pl, nx, cz, ep, ph, lw, cut, hg, ap, hC, hS, hL, hP, hH, hW, hK⟩ := h
  obtain ⟨⟨a1, a2, a3, a4, a5, a6⟩, ⟨b1, b2, b3⟩, s1, s2, s3, s4, s5, s6⟩ := hS
  unfold w_X0_begin w_X1_open w_M0_begin
  refine ⟨fun c1 => ⟨fun _ => ⟨rfl, h2⟩, fun c2 => ?_⟩, fun c1 => ?_⟩
  · rw [a3] at c1; rw [a4] at c2; exact absurd c1 c2
  · have ho : o < 4 := by
      rw [a3] at c1
      exact Nat.lt_of_not_le (fun h => c1 (nI_le (a := 4) h (by omega)))
    refine x_hasRoom 0 1 a1 a3 (by omega) b1 (by omega) (by omega) rfl rfl (fun hr => ⟨fun _ => ⟨by rw [a3]; exact vp_in_nI ho (by omega), ⟨fun c2 => ?_, fun _ => ?_⟩⟩, fun h => absurd h (by decide)⟩) (fun hr => ⟨fun h => absurd rfl h, fun _ => ⟨fun c2 => ?_, fun _ => ?_⟩⟩)
    · rw [a4] at c2; exact absurd c2 (nI_ge (b := 4) ho (by omega))
    · refine m_room 0 1 a2 a4 (by omega) b1 (by omega) (by omega) rfl rfl (fun _ => ⟨fun _ => ⟨by rw [a4]; exact vp_in_nI ho (by omega), ?_⟩, fun h => absurd h (by decide)⟩) (fun h => by omega)
      rw [a3, a4, a5, a6, nI_clamp (by omega), nI_1, nI_1, i_pn]
      refine ⟨rfl, n, o + 1, bg + 1, q, pl, nx, cz, ep, ph, lw, cut, hg, ap, hC, ?_, ?_, hP, ?_, hW, hK⟩
      · refine ⟨⟨a1, a2, rfl, rfl, rfl, rfl⟩, ⟨by omega, by omega, by omega⟩, fun j hj => ?_, fun i j hi hj e => ?_, fun k hk => ?_, s4, s5, fun j k hj hk e => ?_⟩
        · show upd (g_A z 1) o (nI bg) j = upd (g_A w 8) o (nI bg) j ∧ ∃ m, m < bg + 1 ∧ upd (g_A w 8) o (nI bg) j = nI m
          rw [upd_at, upd_at]
          by_cases hjo : j = o
          · rw [if_pos hjo, if_pos hjo]; exact ⟨rfl, bg, by omega, rfl⟩
          · rw [if_neg hjo, if_neg hjo]
            obtain ⟨e1, m, e2, e3⟩ := s1 j (by omega)
            exact ⟨e1, m, by omega, e3⟩
        · have e' : upd (g_A w 8) o (nI bg) i = upd (g_A w 8) o (nI bg) j := e
          rw [upd_at, upd_at] at e'
          by_cases hio : i = o
          · by_cases hjo : j = o
            · omega
            · rw [if_pos hio, if_neg hjo] at e'
              obtain ⟨-, m, e2, e3⟩ := s1 j (by omega)
              rw [e3, nI_eq (by omega) (by omega)] at e'
              omega
          · by_cases hjo : j = o
            · rw [if_neg hio, if_pos hjo] at e'
              obtain ⟨-, m, e2, e3⟩ := s1 i (by omega)
              rw [e3, nI_eq (by omega) (by omega)] at e'
              omega
            · rw [if_neg hio, if_neg hjo] at e'
              exact s2 i j (by omega) (by omega) e'
        · obtain ⟨e1, e2⟩ := s3 k hk
          refine ⟨e1, e2.imp id (fun ⟨j, j1, j2⟩ => ⟨j, by omega, ?_⟩)⟩
          show g_A w 9 k = upd (g_A w 8) o (nI bg) j
          rw [upd_at, if_neg (by omega)]; exact j2
        · have e' : lbw w (upd (g_A w 8) o (nI bg) j) (nI k) n ≠ none := e
          show g_A w 9 k = upd (g_A w 8) o (nI bg) j
          rw [upd_at] at e' ⊢
          by_cases hjo : j = o
          · exfalso
            rw [if_pos hjo] at e'
            cases hl : lbw w (nI bg) (nI k) n with
            | none => exact e' hl
            | some i =>
              obtain ⟨l1, l2, l3, l4⟩ := lb_lt hl
              obtain ⟨-, r1⟩ := hL i l1
              have hm : ∃ m, m < bg ∧ g_A w 1 i = nI m := by
                rcases r1 with ⟨-, -, -, r2, -⟩ | ⟨-, r2⟩ | ⟨-, r2⟩ | ⟨-, r2⟩ | ⟨-, r2, -⟩
                · exact r2
                all_goals (rw [r2] at l4; exact absurd l4 (by decide))
              obtain ⟨m, m1, m2⟩ := hm
              rw [m2, nI_eq (by omega) (by omega)] at l2
              omega
          · rw [if_neg hjo] at e' ⊢
            exact s6 j k (by omega) hk e'
      · intro i hi
        obtain ⟨r0, r1⟩ := hL i hi
        refine ⟨r0, ?_⟩
        rcases r1 with ⟨r1, r2, r3, ⟨m, m1, m2⟩, r5⟩ | r1
        · exact Or.inl ⟨r1, r2, r3, ⟨m, by omega, m2⟩, r5⟩
        · exact Or.inr r1
      · obtain ⟨g1, ⟨g2, g3, g4⟩, g5⟩ := hH
        exact ⟨g1, ⟨g2, g3, by omega⟩, g5⟩
    · exact ⟨rfl, h2⟩
    · exact m_room 0 1 a2 a4 (by omega) b1 (by omega) (by omega) rfl rfl (fun h => by omega) (fun _ => ⟨fun h => absurd rfl h, fun _ => ⟨rfl, h2⟩⟩)
end OP
