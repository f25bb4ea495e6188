/-! acknowledgements; deliver -/
def s3x (w : St) (f g h : Nat → Int32) : St := (w.1, fun a => if a = 3 then f else if a = 4 then g else if a = 5 then h else w.2.1 a, w.2.2)
theorem s3x_id (w : St) : s3x w (g_A w 3) (g_A w 4) (g_A w 5) = w := by
  have e : (fun a => if a = 3 then g_A w 3 else if a = 4 then g_A w 4 else if a = 5 then g_A w 5 else w.2.1 a) = w.2.1 := by
    funext a
    split
    · rename_i h; rw [h]; rfl
    · split
      · rename_i h; rw [h]; rfl
      · split
        · rename_i h; rw [h]; rfl
        · rfl
  unfold s3x
  rw [e]
theorem s3x_up (w : St) (f g h : Nat → Int32) (j : Nat) (a b c : Int32) : s_A (s_A (s_A (s3x w f g h) 3 j a) 4 j b) 5 j c = s3x w (upd f j a) (upd g j b) (upd h j c) := by
  have e : va_up (va_up (va_up (fun a => if a = 3 then f else if a = 4 then g else if a = 5 then h else w.2.1 a) 3 (upd f j a)) 4 (upd g j b)) 5 (upd h j c) = (fun x => if x = 3 then upd f j a else if x = 4 then upd g j b else if x = 5 then upd h j c else w.2.1 x) := by
    funext x
    simp only [va_up]
    by_cases h1 : x = 3
    · subst h1; simp
    · by_cases h2 : x = 4
      · subst h2; simp
      · by_cases h3 : x = 5
        · subst h3; simp
        · simp [h1, h2, h3]
  show (w.1, va_up (va_up (va_up (fun a => if a = 3 then f else if a = 4 then g else if a = 5 then h else w.2.1 a) 3 (upd f j a)) 4 (upd g j b)) 5 (upd h j c), w.2.2) = _
  rw [e]; rfl
def s3m (w : St) (f g h : Nat → Int32) : St := (w.1, fun a => if a = 10 then f else if a = 11 then g else if a = 12 then h else w.2.1 a, w.2.2)
theorem s3m_id (w : St) : s3m w (g_A w 10) (g_A w 11) (g_A w 12) = w := by
  have e : (fun a => if a = 10 then g_A w 10 else if a = 11 then g_A w 11 else if a = 12 then g_A w 12 else w.2.1 a) = w.2.1 := by
    funext a
    split
    · rename_i h; rw [h]; rfl
    · split
      · rename_i h; rw [h]; rfl
      · split
        · rename_i h; rw [h]; rfl
        · rfl
  unfold s3m
  rw [e]
theorem s3m_up (w : St) (f g h : Nat → Int32) (j : Nat) (a b c : Int32) : s_A (s_A (s_A (s3m w f g h) 10 j a) 11 j b) 12 j c = s3m w (upd f j a) (upd g j b) (upd h j c) := by
  have e : va_up (va_up (va_up (fun a => if a = 10 then f else if a = 11 then g else if a = 12 then h else w.2.1 a) 10 (upd f j a)) 11 (upd g j b)) 12 (upd h j c) = (fun x => if x = 10 then upd f j a else if x = 11 then upd g j b else if x = 12 then upd h j c else w.2.1 x) := by
    funext x
    simp only [va_up]
    by_cases h1 : x = 10
    · subst h1; simp
    · by_cases h2 : x = 11
      · subst h2; simp
      · by_cases h3 : x = 12
        · subst h3; simp
        · simp [h1, h2, h3]
  show (w.1, va_up (va_up (va_up (fun a => if a = 10 then f else if a = 11 then g else if a = 12 then h else w.2.1 a) 10 (upd f j a)) 11 (upd g j b)) 12 (upd h j c), w.2.2) = _
  rw [e]; rfl
section DL
variable {K C T : Nat} {le : Int32} {t n o bg q pl nx cz ep ph lw cut hg ap : Nat} {z w : St}
/-- moved down by g below m, as it was from j on -/
def mv (g m j : Nat) (f f' : Nat → Int32) : Prop := (∀ i, i < m → f' i = f (i + g)) ∧ ∀ i, j ≤ i → f' i = f i
theorem mv_step {g j : Nat} {f f' : Nat → Int32} (h : mv g j j f f') : mv g (j + 1) (j + 1) f (upd f' j (f' (j + g))) := by
  refine ⟨fun i hi => ?_, fun i hi => ?_⟩
  · rw [upd_at]
    by_cases e : i = j
    · rw [if_pos e, h.2 (j + g) (by omega), e]
    · rw [if_neg e]; exact h.1 i (by omega)
  · rw [upd_at, if_neg (by omega)]; exact h.2 i (by omega)
theorem mv_stepM {g m j : Nat} {f f' : Nat → Int32} (h : mv g m j f f') (hm : m + g = j) : mv g (m + 1) (j + 1) f (upd f' m (f' j)) := by
  refine ⟨fun i hi => ?_, fun i hi => ?_⟩
  · rw [upd_at]
    by_cases e : i = m
    · rw [if_pos e, h.2 j (by omega), e, hm]
    · rw [if_neg e]; exact h.1 i (by omega)
  · rw [upd_at, if_neg (by omega)]; exact h.2 i (by omega)
theorem mv_skip {g m j : Nat} {f f' : Nat → Int32} (h : mv g m j f f') : mv g m (j + 1) f f' := ⟨h.1, fun i hi => h.2 i (by omega)⟩
theorem x_drop_38 {g m : Nat} {zb : St} (h8 : g_I zb 8 = nI m) (hm : m + g ≤ 4) : ∀ (d j : Nat) (f3 f4 f5 : Nat → Int32), j + d = m → mv g j j (g_A zb 3) f3 → mv g j j (g_A zb 4) f4 → mv g j j (g_A zb 5) f5 → ∃ e3 e4 e5 : Nat → Int32, (∀ i, i < m → e3 i = g_A zb 3 (i + g)) ∧ (∀ i, i < m → e4 i = g_A zb 4 (i + g)) ∧ (∀ i, i < m → e5 i = g_A zb 5 (i + g)) ∧ ∀ Q : Unit → St → Prop, Q () (s3x zb e3 e4 e5) → w_X3_dropUpTo_38 K Q (d + 1) (nI g) (nI j) (s3x zb f3 f4 f5)
  | 0, j, f3, f4, f5, hd, h3, h4, h5 => by
    refine ⟨f3, f4, f5, fun i hi => h3.1 i (by omega), fun i hi => h4.1 i (by omega), fun i hi => h5.1 i (by omega), fun Q hQ => ?_⟩
    unfold w_X3_dropUpTo_38
    have e8 : g_I (s3x zb f3 f4 f5) 8 = nI m := h8
    rw [e8]
    exact ⟨fun _ => hQ, fun hh => absurd (nI_le (by omega) (by omega)) hh⟩
  | d + 1, j, f3, f4, f5, hd, h3, h4, h5 => by
    obtain ⟨e3, e4, e5, q3, q4, q5, hq⟩ := x_drop_38 h8 hm d (j + 1) _ _ _ (by omega) (mv_step h3) (mv_step h4) (mv_step h5)
    refine ⟨e3, e4, e5, q3, q4, q5, fun Q hQ => ?_⟩
    unfold w_X3_dropUpTo_38
    have e8 : g_I (s3x zb f3 f4 f5) 8 = nI m := h8
    have hi1 : vp_in (nI (j + g)) 4 := vp_in_nI (by omega) (by omega)
    have hi0 : vp_in (nI j) 4 := vp_in_nI (by omega) (by omega)
    rw [e8, nI_add, nI_1, nI_clamp (show j + g < 2 ^ 31 by omega), nI_clamp (show j < 2 ^ 31 by omega), s3x_up]
    exact ⟨fun hh => absurd hh (nI_ge (by omega) (by omega)), fun _ => ⟨hi1, hi0, hi1, hi0, hi1, hi0, hq Q hQ⟩⟩
theorem mv_0 (g : Nat) (f : Nat → Int32) : mv g 0 0 f f := ⟨fun i hi => by omega, fun _ _ => rfl⟩
theorem x_drop_2 {x : Int32} (h8 : g_I z 8 = nI q) (h4 : q ≤ 4) : ∀ (d j : Nat), j + d = q → (∀ i, i < j → ¬ x < g_A z 3 i) → ∃ (g : Nat) (e3 e4 e5 : Nat → Int32), g ≤ q ∧ (∀ i, i < g → ¬ x < g_A z 3 i) ∧ (g < q → x < g_A z 3 g) ∧ (∀ i, i < q - g → e3 i = g_A z 3 (i + g)) ∧ (∀ i, i < q - g → e4 i = g_A z 4 (i + g)) ∧ (∀ i, i < q - g → e5 i = g_A z 5 (i + g)) ∧ ∀ Q : Unit → St → Prop, Q () (s3x (s_I z 8 (nI (q - g))) e3 e4 e5) → w_X3_dropUpTo_2 K Q (d + 1) x (nI j) z
  | d, j, hd, hp => by
    have stop : (j = q ∨ x < g_A z 3 j) → ∃ (g : Nat) (e3 e4 e5 : Nat → Int32), g ≤ q ∧ (∀ i, i < g → ¬ x < g_A z 3 i) ∧ (g < q → x < g_A z 3 g) ∧ (∀ i, i < q - g → e3 i = g_A z 3 (i + g)) ∧ (∀ i, i < q - g → e4 i = g_A z 4 (i + g)) ∧ (∀ i, i < q - g → e5 i = g_A z 5 (i + g)) ∧ ∀ Q : Unit → St → Prop, Q () (s3x (s_I z 8 (nI (q - g))) e3 e4 e5) → w_X3_dropUpTo_2 K Q (d + 1) x (nI j) z := by
      intro hs
      obtain ⟨e3, e4, e5, q3, q4, q5, hq⟩ := x_drop_38 (K := K) (g := j) (m := q - j) (zb := s_I z 8 (nI (q - j))) rfl (by omega) (q - j) 0 _ _ _ (by omega) (mv_0 j _) (mv_0 j _) (mv_0 j _)
      refine ⟨j, e3, e4, e5, by omega, hp, fun h => hs.resolve_left (by omega), q3, q4, q5, fun Q hQ => ?_⟩
      have h38 := hq Q hQ
      rw [s3x_id] at h38
      unfold w_X3_dropUpTo_2
      rw [h8, pk_sub (by omega), nI_clamp (by omega)]
      refine ⟨fun _ => ⟨_, h38⟩, fun hh => ⟨vp_in_nI (Nat.lt_of_not_le (fun h2 => hh (nI_le (by omega) (by omega)))) (by omega), fun _ => ⟨_, h38⟩, fun h2 => ?_⟩⟩
      rcases hs with hs | hs
      · exact absurd (nI_le (by omega) (by omega)) hh
      · exact absurd hs h2
    by_cases hs : j = q ∨ x < g_A z 3 j
    · exact stop hs
    · have hjq : ¬ j = q := fun h => hs (Or.inl h)
      have hx : ¬ x < g_A z 3 j := fun h => hs (Or.inr h)
      cases d with
      | zero => omega
      | succ d =>
        obtain ⟨g, e3, e4, e5, r1, r2, r3, r4, r5, r6, hq⟩ := x_drop_2 h8 h4 d (j + 1) (by omega) (fun i hi => by
          rcases Nat.lt_succ_iff_lt_or_eq.mp hi with h1 | h1
          · exact hp i h1
          · subst h1; exact hx)
        refine ⟨g, e3, e4, e5, r1, r2, r3, r4, r5, r6, fun Q hQ => ?_⟩
        unfold w_X3_dropUpTo_2
        rw [h8, nI_clamp (by omega), nI_1]
        exact ⟨fun hh => absurd hh (nI_ge (by omega) (by omega)), fun _ => ⟨vp_in_nI (by omega) (by omega), fun h => absurd h hx, fun _ => hq Q hQ⟩⟩
theorem m_leave_4 {g : Nat} {x : Int32} {wb : St} (h16 : g_I wb 16 = nI q) (h4 : q ≤ 4) (hlo : ∀ i, i < g → g_A wb 10 i ≤ x) (hhi : ∀ i, g ≤ i → i < q → ¬ g_A wb 10 i ≤ x) (hgq : g ≤ q) : ∀ (d j m : Nat) (f3 f4 f5 : Nat → Int32), j + d = q → m = j - g → mv g m j (g_A wb 10) f3 → mv g m j (g_A wb 11) f4 → mv g m j (g_A wb 12) f5 → ∃ e3 e4 e5 : Nat → Int32, (∀ i, i < q - g → e3 i = g_A wb 10 (i + g)) ∧ (∀ i, i < q - g → e4 i = g_A wb 11 (i + g)) ∧ (∀ i, i < q - g → e5 i = g_A wb 12 (i + g)) ∧ ∀ Q : Unit → St → Prop, Q () (s_I (s3m wb e3 e4 e5) 16 (nI (q - g))) → w_M0_leave_4 K Q (d + 1) x (nI m) (nI j) (s3m wb f3 f4 f5)
  | 0, j, m, f3, f4, f5, hd, hm, h3, h4', h5 => by
    have ej : j = q := by omega
    subst ej; subst hm
    refine ⟨f3, f4, f5, h3.1, h4'.1, h5.1, fun Q hQ => ?_⟩
    unfold w_M0_leave_4
    have e16 : g_I (s3m wb f3 f4 f5) 16 = nI j := h16
    rw [e16]
    exact ⟨fun _ => hQ, fun hh => absurd (nI_le (Nat.le_refl _) (by omega)) hh⟩
  | d + 1, j, m, f3, f4, f5, hd, hm, h3, h4', h5 => by
    have e16 : g_I (s3m wb f3 f4 f5) 16 = nI q := h16
    have hi0 : vp_in (nI j) 4 := vp_in_nI (by omega) (by omega)
    have him : vp_in (nI m) 4 := vp_in_nI (by omega) (by omega)
    have ej : g_A (s3m wb f3 f4 f5) 10 j = g_A wb 10 j := h3.2 j (Nat.le_refl _)
    by_cases hj : j < g
    · obtain ⟨e3, e4, e5, q3, q4, q5, hq⟩ := m_leave_4 h16 h4 hlo hhi hgq d (j + 1) m f3 f4 f5 (by omega) (by omega) (mv_skip h3) (mv_skip h4') (mv_skip h5)
      refine ⟨e3, e4, e5, q3, q4, q5, fun Q hQ => ?_⟩
      unfold w_M0_leave_4
      rw [e16, nI_clamp (show j < 2 ^ 31 by omega), nI_1, nI_1]
      exact ⟨fun hh => absurd hh (nI_ge (by omega) (by omega)), fun _ => ⟨hi0, fun _ => hq Q hQ, fun hh => absurd (by rw [ej]; exact hlo j hj) hh⟩⟩
    · obtain ⟨e3, e4, e5, q3, q4, q5, hq⟩ := m_leave_4 h16 h4 hlo hhi hgq d (j + 1) (m + 1) _ _ _ (by omega) (by omega) (mv_stepM h3 (by omega)) (mv_stepM h4' (by omega)) (mv_stepM h5 (by omega))
      refine ⟨e3, e4, e5, q3, q4, q5, fun Q hQ => ?_⟩
      unfold w_M0_leave_4
      rw [e16, nI_clamp (show j < 2 ^ 31 by omega), nI_clamp (show m < 2 ^ 31 by omega), nI_1, nI_1, s3m_up]
      exact ⟨fun hh => absurd hh (nI_ge (by omega) (by omega)), fun _ => ⟨hi0, fun hh => absurd (by rw [ej] at hh; exact hh) (hhi j (by omega) (by omega)), fun _ => ⟨hi0, him, hi0, him, hi0, him, hq Q hQ⟩⟩⟩
theorem p_drop {x : Int32} (h : JP K C T le t n o bg q pl nx cz ep ph lw cut hg ap z w) : ∃ (q' : Nat) (z' w' : St), JP K C T le t n o bg q' pl nx cz ep ph lw cut hg ap z' w' ∧ (∀ Q : Unit → St → Prop, Q () z' → w_X3_dropUpTo K x z Q) ∧ (∀ Q : Unit → St → Prop, Q () w' → w_M0_leave K x w Q) := by
  obtain ⟨hC, hS, hL, hP, hH, hW, hKK⟩ := h
  have hP0 := hP
  obtain ⟨⟨p1, p2, p3⟩, pq, po, ptm, pf, plast, pp, pn⟩ := hP0
  have hn2 := hS.2.1.2.1
  obtain ⟨g, e3, e4, e5, r1, r2, r3, r4, r5, r6, hX⟩ := x_drop_2 (K := K) (x := x) p1 p3 q 0 (by omega) (fun i hi => by omega)
  have hlo : ∀ i, i < g → g_A w 10 i ≤ x := fun i hi => by
    have := r2 i hi
    rw [(pq i (by omega)).1] at this
    exact Int32.not_lt.mp this
  have hhi : ∀ i, g ≤ i → i < q → ¬ g_A w 10 i ≤ x := by
    intro i h1 h2
    have h3 := r3 (by omega)
    rw [(pq g (by omega)).1] at h3
    by_cases e : i = g
    · rw [e]; exact Int32.not_le.mpr h3
    · obtain ⟨-, -, -, a, a1, a2, -⟩ := pq g (by omega)
      obtain ⟨-, -, -, b, b1, b2, -⟩ := pq i h2
      have hpl := pp.2.2
      have hab := po g i a b (by omega) h2 a1 b1 (by omega) (by omega)
      have hab' : g_A w 10 g < g_A w 10 i := by rw [a1, b1]; exact nI_lt hab (by omega)
      rw [Int32.not_le]
      rw [Int32.lt_iff_toInt_lt] at h3 hab' ⊢
      omega
  obtain ⟨d3, d4, d5, s3, s4, s5, hM⟩ := m_leave_4 (K := K) (g := g) (x := x) (wb := w) p2 p3 hlo hhi r1 q 0 0 _ _ _ (by omega) (by omega) (mv_0 g _) (mv_0 g _) (mv_0 g _)
  refine ⟨q - g, s3x (s_I z 8 (nI (q - g))) e3 e4 e5, s_I (s3m w d3 d4 d5) 16 (nI (q - g)), ⟨hC, hS, hL, ?_, hH, hW, hKK⟩, fun Q hQ => ⟨_, hX Q hQ⟩, fun Q hQ => ?_⟩
  rotate_left
  · have := hM Q hQ
    rw [s3m_id] at this
    exact ⟨_, this⟩
  · refine ⟨⟨rfl, rfl, by omega⟩, fun i hi => ?_, fun i j a b hij hj h1 h2 ha hb => ?_, ptm, pf, plast, pp, pn⟩
    · show e3 i = d3 i ∧ e4 i = d4 i ∧ e5 i = d5 i ∧ ∃ p, d3 i = nI p ∧ p < pl ∧ EV K C nx n z w p
      rw [r4 i hi, r5 i hi, r6 i hi, s3 i hi, s4 i hi, s5 i hi]
      exact pq (i + g) (by omega)
    · have h1' : d3 i = nI a := h1
      have h2' : d3 j = nI b := h2
      rw [s3 i (by omega)] at h1'
      rw [s3 j hj] at h2'
      exact po (i + g) (j + g) a b (by omega) (by omega) h1' h2' ha hb
theorem p_ack (h : JP K C T le t n o bg q pl nx cz ep ph lw cut hg ap z w) : ∃ (cz' : Nat) (z' w' : St), JP K C T le t n o bg q pl nx cz' ep ph lw cut hg ap z' w' ∧ (∀ Q : Unit → St → Prop, Q () z' → w_X0_sendAck K z Q) ∧ (∀ Q : Unit → St → Prop, Q () w' → w_M0_acknowledge K w Q) := by
  obtain ⟨hC, hS, hL, hP, hH, hW, hKK⟩ := h
  have hH0 := hH
  obtain ⟨⟨g1, g2, g3⟩, ⟨e1, e2, e3⟩, hpk⟩ := hH0
  have hK0 := hKK
  obtain ⟨⟨k1, k2, k3⟩, -⟩ := hK0
  by_cases hc : cz < 8
  · refine ⟨cz + 1, xapp z cz 2 (nI ep) (ps (g_A w 17) ap) 0, mapp w cz 2 (nI ep) (ps (g_A w 17) ap) 0, ⟨hC, hS, hL, hP, rh_add hH hc ⟨ep, Nat.le_refl _, rfl⟩ (fun _ h => absurd rfl h), hW, hKK⟩, fun Q hQ => ?_, fun Q hQ => ?_⟩
    · unfold w_X0_sendAck w_X2_send
      rw [e1, k3]
      exact x_append g1 (fun _ => hQ) (fun h => by omega) g3
    · unfold w_M0_acknowledge
      refine m_position k1 k2 ?_
      rw [e2]
      exact m_add g2 (fun _ => hQ) (fun h => by omega) g3
  · refine ⟨cz, z, w, ⟨hC, hS, hL, hP, hH, hW, hKK⟩, fun Q hQ => ?_, fun Q hQ => ?_⟩
    · unfold w_X0_sendAck w_X2_send
      exact x_append g1 (fun h => absurd h hc) (fun _ => hQ) g3
    · unfold w_M0_acknowledge
      refine m_position k1 k2 ?_
      exact m_add g2 (fun h => absurd h hc) (fun _ => hQ) g3
theorem m_takeE_12 {i : Nat} {wb : St} (hc : g_I wb 18 = nI cz) (h8 : cz ≤ 7) : ∀ d j f g h k, j + d = cz → i ≤ j → shj i j (g_A wb 13) f → shj i j (g_A wb 14) g → shj i j (g_A wb 15) h → shj i j (g_A wb 16) k → ∃ f' g' h' k' : Nat → Int32, shf i (g_A wb 13) cz f' ∧ shf i (g_A wb 14) cz g' ∧ shf i (g_A wb 15) cz h' ∧ shf i (g_A wb 16) cz k' ∧ ∀ Q : Unit → St → Prop, Q () (s4m wb f' g' h' k') → w_M0_take_12 K Q (d + 1) (nI j) (s4m wb f g h k)
  | 0, j, f, g, h, k, hd, hij, h1, h2, h3, h4 => by
    have e : j = cz := by omega
    subst e
    refine ⟨f, g, h, k, h1.1, h2.1, h3.1, h4.1, fun Q hQ => ?_⟩
    unfold w_M0_take_12
    have hc' : g_I (s4m wb f g h k) 18 = nI j := hc
    rw [hc']
    exact ⟨fun _ => hQ, fun hh => absurd (nI_le (Nat.le_refl _) (by omega)) hh⟩
  | d + 1, j, f, g, h, k, hd, hij, h1, h2, h3, h4 => by
    obtain ⟨f', g', h', k', q1, q2, q3, q4, hq⟩ := m_takeE_12 hc h8 d (j + 1) _ _ _ _ (by omega) (by omega) (shj_step h1 hij) (shj_step h2 hij) (shj_step h3 hij) (shj_step h4 hij)
    refine ⟨f', g', h', k', q1, q2, q3, q4, fun Q hQ => ?_⟩
    unfold w_M0_take_12
    have hc' : g_I (s4m wb f g h k) 18 = nI cz := hc
    have hi1 : vp_in (nI (j + 1)) 8 := vp_in_nI (by omega) (by omega)
    have hi0 : vp_in (nI j) 8 := vp_in_nI (by omega) (by omega)
    rw [hc', nI_1, nI_clamp (show j < 2 ^ 31 by omega), nI_clamp (show j + 1 < 2 ^ 31 by omega), s4m_up]
    exact ⟨fun hh => absurd hh (nI_ge (by omega) (by omega)), fun _ => ⟨hi1, hi0, hi1, hi0, hi1, hi0, hi1, hi0, hq Q hQ⟩⟩
theorem p_take {i : Nat} (h : JP K C T le t n o bg q pl nx cz ep ph lw cut hg ap z w) (hi : i < cz) : ∃ (z' w' : St), JP K C T le t n o bg q pl nx (cz - 1) ep ph lw cut hg ap z' w' ∧ (∀ p, EV K C nx n z w p → EV K C nx n z' w' p) ∧ (∀ Q : Unit → St → Prop, Q () z' → w_X2_takeOut K (nI i) z Q) ∧ (∀ Q : Unit → St → Prop, Q () w' → w_M0_take K (nI i) w Q) := by
  obtain ⟨hC, hS, hL, hP, hH, hW, hKK⟩ := h
  have hH0 := hH
  obtain ⟨⟨g1, g2, g3⟩, -⟩ := hH0
  obtain ⟨f, g, h', k, h1, h2, h3, h4, hM⟩ := m_takeE_12 (K := K) (i := i) (cz := cz - 1) (wb := s_I w 18 (nI (cz - 1))) rfl (by omega) (cz - 1 - i) i _ _ _ _ (by omega) (Nat.le_refl _) (shj_0 i _) (shj_0 i _) (shj_0 i _) (shj_0 i _)
  refine ⟨xtk z cz i, s4m (s_I w 18 (nI (cz - 1))) f g h' k, ⟨hC, hS, hL, hP, rh_take hH hi h1 h2 h3 h4, hW, hKK⟩, fun _ h => h, fun Q hQ => x_takeOut rfl g1 g3 hi hQ, fun Q hQ => ?_⟩
  have hm := hM Q hQ
  rw [s4m_id] at hm
  unfold w_M0_take
  obtain ⟨c, rfl⟩ : ∃ c, cz = c + 1 := ⟨cz - 1, by omega⟩
  rw [g2, i_pn]
  exact ⟨_, hm⟩
theorem o_deliver (x1 : Int32) (h : J K C T le t z w) : w_X0_deliver K x1 z (fun r u => w_M0_deliver K x1 w (fun r' u' => r = r' ∧ J K C T le (t + 1) u u')) := by
  have hJ := J_up h
  obtain ⟨n, o, bg, q, pl, nx, cz, ep, ph, lw, cut, hg, ap, hJP⟩ := hJ
  have hJ := J_up h
  have hJP0 := hJP
  obtain ⟨hC, hS, hL, hP, hH, hW, hKK⟩ := hJP0
  obtain ⟨⟨g1, g2, g3⟩, ⟨e1, e2, e3⟩, hp⟩ := hH
  unfold w_X0_deliver
  refine x_holds g1 g3 (fun i hi e => ⟨fun _ => ?_, fun h => absurd h (by decide)⟩) (fun hb => ⟨fun h => absurd rfl h, fun _ => ?_⟩)
  · subst e
    have m1 : ¬ nI i < 0 := nI_pos (by omega)
    have m2 : nI i < g_I w 18 := by rw [g2]; exact nI_lt hi (by omega)
    have hin : vp_in (nI i) 8 := vp_in_nI (by omega) (by omega)
    obtain ⟨⟨q0, q1, q2, q3⟩, q4, q5⟩ := hp i hi
    obtain ⟨z1, w1, hJ1, tE, tX, tM⟩ := p_take hJP hi
    refine x_word (j := 0) rfl rfl (by omega) (by omega) (x_word (j := 1) rfl rfl (by omega) (by omega) (x_word (j := 2) rfl rfl (by omega) (by omega) (x_word (j := 3) rfl rfl (by omega) (by omega) ?_)))
    rw [show 4 * i + 0 = 4 * i from rfl, q0, q1, q2, q3]
    refine tX _ ?_
    have hJ10 := hJ1
    obtain ⟨hC1, hS1, hL1, hP1, ⟨h1a, ⟨f1, f2, f3⟩, h1c⟩, hW1, ⟨⟨k1, k2, k3⟩, kd, kr, kp, ⟨ks1, ks2⟩⟩⟩ := hJ10
    rw [f1]
    refine ⟨fun he => ⟨fun hk => ⟨fun hlt => ?_, fun hlt => ?_⟩, fun hk => ?_⟩, fun he => ?_⟩
    · -- an event beyond the position
      obtain ⟨p, hpv, hEV⟩ := q5 he hk
      have hlt' : ps (g_A w1 17) ap < g_A w 15 i := by rw [← k3]; exact hlt
      have mstart : ∀ (Q : Int32 → St → Prop), ((¬ g_A w 16 i = ps (g_A w1 17) ap → Q 1 w1) ∧ (g_A w 16 i = ps (g_A w1 17) ap → ((0 ≤ g_I w1 20 → Q 1 w1) ∧ (¬ 0 ≤ g_I w1 20 → Q 1 (s_I w1 20 (g_A w 15 i)))))) → w_M0_deliver K (nI i) w Q := by
        intro Q hQ
        unfold w_M0_deliver
        rw [nI_clamp (show i < 2 ^ 31 by omega), e2]
        refine ⟨fun h => absurd h m1, fun _ => ⟨fun _ => ⟨hin, hin, hin, hin, fun h => absurd he h, fun _ => tM _ ⟨fun _ => ?_, fun h => absurd h hk⟩⟩, fun h => absurd m2 h⟩⟩
        exact m_position k1 k2 ⟨fun _ => m_position k1 k2 hQ, fun h => absurd hlt' h⟩
      unfold w_X4_offer
      rw [k3, ks1]
      refine ⟨fun hb => mstart _ ⟨fun _ => ⟨rfl, JP.J hJ1⟩, fun h => absurd h hb⟩, fun hb => ⟨fun hs => mstart _ ⟨fun h => absurd hb h, fun _ => ⟨fun _ => ⟨rfl, JP.J hJ1⟩, fun h => ?_⟩⟩, fun hs => mstart _ ⟨fun h => absurd hb h, fun _ => ⟨fun h => ?_, fun _ => ⟨rfl, ?_⟩⟩⟩⟩⟩
      · exfalso
        rcases ks2 with ks2 | ⟨s, s1, s2, -⟩
        · exact hs ks2
        · rw [s1] at h
          exact h (nI_pos' (by have := s2.1; have := hS.2.1.2.1; omega))
      · rw [hs] at h; exact absurd h (by decide)
      · have hEV1 : EV K C nx n z1 w1 p := tE p hEV
        refine ⟨n, o, bg, q, pl, nx, cz - 1, ep, ph, lw, cut, hg, ap, hC1, hS1, hL1, hP1, ⟨h1a, ⟨f1, f2, f3⟩, h1c⟩, hW1, ⟨k1, k2, k3⟩, kd, kr, kp, rfl, Or.inr ⟨p, hpv, hEV1, ?_⟩⟩
        rcases Nat.eq_zero_or_pos ap with h0 | h0
        · exact Or.inl h0
        · obtain ⟨d, d1, -, d3, -⟩ := kd (ap - 1) (by omega)
          refine Or.inr ⟨d, d1, ?_⟩
          have hps : ps (g_A w1 17) ap = nI d := by unfold ps; rw [if_neg (by omega)]; exact d1
          have hn2 := hS.2.1.2.1
          rw [hps, hpv, nI_ltI (by omega) (by have := hEV.1; omega)] at hlt'
          exact hlt'
    · -- an event that is stored already
      obtain ⟨cz', z2, w2, hJ2, aX, aM⟩ := p_ack hJ1
      refine aX _ ?_
      unfold w_M0_deliver
      rw [nI_clamp (show i < 2 ^ 31 by omega), e2]
      refine ⟨fun h => absurd h m1, fun _ => ⟨fun _ => ⟨hin, hin, hin, hin, fun h => absurd he h, fun _ => tM _ ⟨fun _ => ?_, fun h => absurd h hk⟩⟩, fun h => absurd m2 h⟩⟩
      exact m_position k1 k2 ⟨fun h => absurd (by rw [k3]; exact h) hlt, fun _ => aM _ ⟨rfl, JP.J hJ2⟩⟩
    · -- an acknowledgement
      obtain ⟨q', z2, w2, hJ2, dX, dM⟩ := p_drop (x := g_A w 15 i) hJ1
      refine dX _ ?_
      unfold w_M0_deliver
      rw [nI_clamp (show i < 2 ^ 31 by omega), e2]
      exact ⟨fun h => absurd h m1, fun _ => ⟨fun _ => ⟨hin, hin, hin, hin, fun h => absurd he h, fun _ => tM _ ⟨fun h => absurd hk h, fun _ => dM _ ⟨rfl, JP.J hJ2⟩⟩⟩, fun h => absurd m2 h⟩⟩
    · unfold w_M0_deliver
      rw [nI_clamp (show i < 2 ^ 31 by omega), e2]
      exact ⟨fun h => absurd h m1, fun _ => ⟨fun _ => ⟨hin, hin, hin, hin, fun _ => tM _ ⟨rfl, JP.J hJ1⟩, fun h => absurd h he⟩, fun h => absurd m2 h⟩⟩
  · unfold w_M0_deliver
    rcases hb with hb | hb
    · exact ⟨fun _ => ⟨rfl, hJ⟩, fun h => absurd hb h⟩
    · exact ⟨fun _ => ⟨rfl, hJ⟩, fun _ => ⟨fun h => absurd hb (by rw [g2] at h; exact Int32.not_le.mpr h), fun _ => ⟨rfl, hJ⟩⟩⟩
end DL
