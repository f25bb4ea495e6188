/-! the reference's end; end, crash -/
def End_ (n o : Nat) (x cm : Int32) (w w' : St) : Prop := SM w w' ∧ (g_I w' 4 = nI (n + 1) ∧ g_I w' 6 = nI (o - 1) ∧ g_I w' 5 = g_I w 5) ∧ Ag n w w' ∧ (g_A w' 0 n = (if cm = 0 then 4 else 3) ∧ g_A w' 1 n = x) ∧
  (∃ js, js < o ∧ g_A w 8 js = x ∧ ∀ i, i < o - 1 → g_A w' 8 i = if i < js then g_A w 8 i else g_A w 8 (i + 1)) ∧ ∀ k, k < 12 → g_A w' 9 k = if g_A w 9 k = x then -1 else g_A w 9 k
def EI (js j left : Nat) (w wc : St) : Prop := wc.1 = w.1 ∧ (∀ a, ¬ a = 8 → g_A wc a = g_A w a) ∧ left = (if j ≤ js then j else j - 1) ∧ (∀ i, i < left → g_A wc 8 i = if i < js then g_A w 8 i else g_A w 8 (i + 1)) ∧ ∀ i, j ≤ i → g_A wc 8 i = g_A w 8 i
def LI (k o : Nat) (x : Int32) (js : Nat) (w wc : St) : Prop := (∀ i, ¬ i = 6 → g_I wc i = g_I w i) ∧ g_I wc 6 = nI (o - 1) ∧ (∀ a, ¬ a = 8 → ¬ a = 9 → g_A wc a = g_A w a) ∧ (∀ i, i < o - 1 → g_A wc 8 i = if i < js then g_A w 8 i else g_A w 8 (i + 1)) ∧ ∀ k', k' < 12 → g_A wc 9 k' = if k' < k ∧ g_A w 9 k' = x then -1 else g_A w 9 k'
section EN
variable {K C T : Nat} {le : Int32} {t : Nat} {z w : St}
theorem m_end_66 {Q : Int32 → St → Prop} {n o js : Nat} {x cm : Int32} (h4 : g_I w 4 = nI n) (hn : n < 160) (hjs : js < o) (hx : g_A w 8 js = x) (hQ : ∀ w', End_ n o x cm w w' → Q (nI n) w') : ∀ d k wc, k + d = 12 → LI k o x js w wc → w_M0_end_66 K Q (d + 1) x cm (nI k) wc
  | 0, k, wc, hd, hl => by
    unfold w_M0_end_66
    have e : k = 12 := by omega
    subst e
    obtain ⟨hI, l2, hAr, l4, l5⟩ := hl
    have key : ∀ (kd : Int32), kd = (if cm = 0 then 4 else 3) → Q (nI n) (ww wc n kd x (-1)) := by
      intro kd hkd
      refine hQ _ ⟨⟨hI 0 (by decide), hI 1 (by decide), hI 2 (by decide), hI 3 (by decide), hI 7 (by decide), hI 8 (by decide), hI 9 (by decide), hI 10 (by decide), hI 11 (by decide), hI 12 (by decide), hI 13 (by decide), hI 14 (by decide), hI 15 (by decide), hI 16 (by decide), hI 17 (by decide), hI 18 (by decide), hI 19 (by decide), hI 20 (by decide), hAr 10 (by decide) (by decide), hAr 11 (by decide) (by decide), hAr 12 (by decide) (by decide), hAr 13 (by decide) (by decide), hAr 14 (by decide) (by decide), hAr 15 (by decide) (by decide), hAr 16 (by decide) (by decide), hAr 17 (by decide) (by decide)⟩, ⟨rfl, l2, hI 5 (by decide)⟩, fun i hi => ?_, ⟨hkd ▸ pk_us, pk_us⟩, ⟨js, hjs, hx, l4⟩, fun k' hk' => ?_⟩
      · obtain ⟨q0, q1, q2, q3, q4, q5, q6, q7⟩ := ag_ww (w := wc) (n := n) (a := kd) (b := x) (c := -1) i hi
        exact ⟨q0.trans (congrFun (hAr 0 (by decide) (by decide)) i), q1.trans (congrFun (hAr 1 (by decide) (by decide)) i), q2.trans (congrFun (hAr 2 (by decide) (by decide)) i), q3.trans (congrFun (hAr 3 (by decide) (by decide)) i), q4.trans (congrFun (hAr 4 (by decide) (by decide)) i), q5.trans (congrFun (hAr 5 (by decide) (by decide)) i), q6.trans (congrFun (hAr 6 (by decide) (by decide)) i), q7.trans (congrFun (hAr 7 (by decide) (by decide)) i)⟩
      · have g := l5 k' hk'
        simp only [hk', true_and] at g
        exact g
    refine ⟨fun _ => ⟨fun hc => ?_, fun hc => ?_⟩, fun h => absurd (show (12 : Int32) ≤ nI 12 by decide) h⟩
    · exact m_write ((hI 4 (by decide)).trans h4) hn (key 4 (if_pos hc).symm)
    · exact m_write ((hI 4 (by decide)).trans h4) hn (key 3 (if_neg hc).symm)
  | d + 1, k, wc, hd, hl => by
    unfold w_M0_end_66
    rw [nI_clamp (by omega), nI_1]
    have hin : vp_in (nI k) 12 := vp_in_nI (by omega) (by omega)
    obtain ⟨hI, l2, hAr, l4, l5⟩ := hl
    have g1 := l5 k (by omega)
    rw [if_neg (by omega)] at g1
    have step : ∀ wn, LI (k + 1) o x js w wn → w_M0_end_66 K Q (d + 1) x cm (nI (k + 1)) wn := fun wn hz => m_end_66 h4 hn hjs hx hQ d (k + 1) wn (by omega) hz
    have mk : ∀ v, v = (if g_A w 9 k = x then -1 else g_A w 9 k) → LI (k + 1) o x js w (s_A wc 9 k v) := by
      intro v hv
      refine ⟨hI, l2, fun a h8 h9 => (va_up_ne _ _ h9).trans (hAr a h8 h9), l4, fun k' hk' => ?_⟩
      show upd (g_A wc 9) k v k' = _
      rw [upd_at]
      by_cases e : k' = k
      · subst e
        rw [if_pos rfl, hv]
        by_cases e2 : g_A w 9 k' = x
        · rw [if_pos e2, if_pos ⟨by omega, e2⟩]
        · rw [if_neg e2, if_neg (fun hh => e2 hh.2)]
      · have e2 : k' < k + 1 ↔ k' < k := by omega
        rw [if_neg e]
        simp only [e2]
        exact l5 k' hk'
    refine ⟨fun h => absurd h (nI_ge (b := 12) (by omega) (by omega)), fun _ => ⟨hin, fun h => ⟨hin, hin, step _ (mk _ ?_)⟩, fun h => ⟨hin, step _ (mk _ ?_)⟩⟩⟩
    · rw [g1] at h ⊢; rw [if_neg h]
    · rw [g1] at h; rw [if_pos h]
theorem m_end_16 {Q : Int32 → St → Prop} {n o js : Nat} {x cm : Int32} (h4 : g_I w 4 = nI n) (h6 : g_I w 6 = nI o) (hn : n < 160) (ho4 : o ≤ 4) (hjs : js < o) (hx : g_A w 8 js = x) (hd1 : ∀ i j, i < o → j < o → g_A w 8 i = g_A w 8 j → i = j) (hQ : ∀ w', End_ n o x cm w w' → Q (nI n) w') : ∀ d j left wc, j + d = o → EI js j left w wc → w_M0_end_16 K Q (d + 1) x cm (nI left) (nI j) wc
  | 0, j, left, wc, hd, he => by
    unfold w_M0_end_16
    obtain ⟨e1, e2, e3, e4, e5⟩ := he
    have h6' : g_I wc 6 = nI o := (congrFun e1 6).trans h6
    have ej : j = o := by omega
    subst ej
    rw [if_neg (by omega)] at e3
    subst e3
    rw [h6']
    refine ⟨fun _ => ⟨_, m_end_66 h4 hn hjs hx hQ 12 0 _ (by omega) ?_⟩, fun h => absurd (nI_le (Nat.le_refl _) (by omega)) h⟩
    refine ⟨fun i hi => ?_, rfl, fun a h8 _ => e2 a h8, e4, fun k' hk' => ?_⟩
    · show (if i = 6 then _ else g_I wc i) = _
      rw [if_neg hi]; exact congrFun e1 i
    · rw [if_neg (by omega)]; exact congrFun (e2 9 (by decide)) k'
  | d + 1, j, left, wc, hd, he => by
    unfold w_M0_end_16
    obtain ⟨e1, e2, e3, e4, e5⟩ := he
    have h6' : g_I wc 6 = nI o := (congrFun e1 6).trans h6
    have hl : left ≤ j := by split at e3 <;> omega
    rw [h6', nI_clamp (show j < 2 ^ 31 by omega), nI_clamp (show left < 2 ^ 31 by omega), nI_1, nI_1, e5 j (Nat.le_refl _)]
    have hin : vp_in (nI j) 4 := vp_in_nI (by omega) (by omega)
    refine ⟨fun h => absurd h (nI_ge (by omega) (by omega)), fun _ => ⟨hin, fun h => ?_, fun h => ⟨hin, vp_in_nI (by omega) (by omega), ?_⟩⟩⟩
    · have ej : j = js := hd1 j js (by omega) hjs (h.trans hx.symm)
      refine m_end_16 h4 h6 hn ho4 hjs hx hd1 hQ d (j + 1) left wc (by omega) ⟨e1, e2, ?_, e4, fun i hi => e5 i (by omega)⟩
      rw [e3, if_pos (by omega), if_neg (by omega)]
      omega
    · have ej : ¬ j = js := fun e => h (by rw [e]; exact hx)
      refine m_end_16 h4 h6 hn ho4 hjs hx hd1 hQ d (j + 1) (left + 1) _ (by omega) ⟨e1, fun a ha => (va_up_ne _ _ ha).trans (e2 a ha), ?_, fun i hi => ?_, fun i hi => ?_⟩
      · rw [e3]
        by_cases c : j ≤ js
        · rw [if_pos c, if_pos (by omega)]
        · rw [if_neg c, if_neg (by omega)]; omega
      · show upd (g_A wc 8) left (g_A w 8 j) i = _
        rw [upd_at]
        by_cases c : i = left
        · rw [if_pos c]
          by_cases c2 : j ≤ js
          · rw [if_pos c2] at e3
            rw [if_pos (by omega), c, e3]
          · rw [if_neg c2] at e3
            rw [if_neg (by omega), c, e3, show j - 1 + 1 = j by omega]
        · rw [if_neg c]; exact e4 i (by omega)
      · show upd (g_A wc 8) left (g_A w 8 j) i = _
        rw [upd_at, if_neg (by omega)]
        exact e5 i (by omega)
theorem m_end {Q : Int32 → St → Prop} {n o js : Nat} {x cm : Int32} (h4 : g_I w 4 = nI n) (h6 : g_I w 6 = nI o) (hn : n < 160) (ho4 : o ≤ 4) (hjs : js < o) (hx : g_A w 8 js = x) (hd1 : ∀ i j, i < o → j < o → g_A w 8 i = g_A w 8 j → i = j) (hQ : ∀ w', End_ n o x cm w w' → Q (nI n) w') : w_M0_end K x cm w Q := by
  unfold w_M0_end
  refine m_isOpen h6 ho4 (fun _ => ⟨fun _ => ⟨_, m_end_16 h4 h6 hn ho4 hjs hx hd1 hQ o 0 0 w (by omega) ⟨rfl, fun _ _ => rfl, rfl, fun i hi => by omega, fun _ _ => rfl⟩⟩, fun h => absurd h (by decide)⟩) (fun hh => absurd hx (hh js hjs))
theorem rs_end {n o bg : Nat} {z' w' : St} {x cm : Int32} (hS : RS K n o bg z w) (hL : RL K n bg z w) (hK : K ≤ 12) (hF : Fin_ K n o x cm z z') (hE : End_ n o x cm w w') : RS K (n + 1) (o - 1) bg z' w' := by
  obtain ⟨⟨a1, a2, a3, a4, a5, a6⟩, ⟨b1, b2, b3⟩, s1, s2, s3, s4, s5, s6⟩ := hS
  obtain ⟨-, ⟨f1, f2, f3⟩, -, -, ⟨js, j1, j2, j3, j4⟩, f6⟩ := hF
  obtain ⟨-, ⟨g1, g2, g3⟩, hA, ⟨g4, g5⟩, ⟨js', k1, k2, k3⟩, g6⟩ := hE
  have ejs : js' = js := s2 js' js k1 j1 (k2.trans (j2.symm.trans (s1 js j1).1))
  subst ejs
  have hx := k2
  have hop : ∀ i, i < o - 1 → ∃ i', i' < o ∧ ¬ i' = js' ∧ g_A w' 8 i = g_A w 8 i' ∧ i' = (if i < js' then i else i + 1) := by
    intro i hi
    rw [k3 i hi]
    by_cases c : i < js'
    · exact ⟨i, by omega, by omega, by rw [if_pos c], by rw [if_pos c]⟩
    · exact ⟨i + 1, by omega, by omega, by rw [if_neg c], by rw [if_neg c]⟩
  have hne : ∀ i, i < o - 1 → ¬ g_A w' 8 i = x := by
    intro i hi h
    obtain ⟨i', i1, i2, i3, -⟩ := hop i hi
    exact i2 (s2 i' js' i1 k1 (by rw [← i3, h, hx]))
  have h12 : ¬ (g_A w' 0 n = 1 ∨ g_A w' 0 n = 2) := by
    rw [g4]; split <;> decide
  have lbe : ∀ (m k : Int32), lbw w' m k (n + 1) = lbw w m k n := fun m k => (lb_succ_ne (fun hh => h12 hh.2.2)).trans (ag_lb hA (Nat.le_refl _))
  refine ⟨⟨f1, g1, f2, g2, f3.trans a5, g3.trans a6⟩, ⟨by omega, by omega, by omega⟩, fun i hi => ?_, fun i j hi hj e => ?_, fun k hk => ?_, fun k hk => ?_, fun k hk => ?_, fun i k hi hk e => ?_⟩
  · obtain ⟨i', i1, i2, i3, i4⟩ := hop i hi
    refine ⟨?_, ?_⟩
    · rw [j4 i hi, k3 i hi]
      by_cases c : i < js'
      · rw [if_pos c, if_pos c]; exact (s1 i (by omega)).1
      · rw [if_neg c, if_neg c]; exact (s1 (i + 1) (by omega)).1
    · rw [i3]; exact (s1 i' i1).2
  · obtain ⟨i', i1, i2, i3, i4⟩ := hop i hi
    obtain ⟨j', q1, q2, q3, q4⟩ := hop j hj
    have e' := s2 i' j' i1 q1 (by rw [← i3, ← q3]; exact e)
    rw [e'] at i4
    rw [q4] at i4
    split at i4 <;> split at i4 <;> omega
  · have h1 := (f6 k hk).1
    have h2 := g6 k (by omega)
    obtain ⟨l1, l2⟩ := s3 k hk
    rw [h1, h2, l1]
    refine ⟨rfl, ?_⟩
    by_cases c : g_A w 9 k = x
    · rw [if_pos c]; exact Or.inl rfl
    · rw [if_neg c]
      rcases l2 with l2 | ⟨j, l2, l3⟩
      · exact Or.inl l2
      · refine Or.inr ?_
        have hj : ¬ j = js' := fun e => c (by rw [l3, e, hx])
        by_cases c2 : j < js'
        · exact ⟨j, by omega, by rw [k3 j (by omega), if_pos c2]; exact l3⟩
        · exact ⟨j - 1, by omega, by rw [k3 (j - 1) (by omega), if_neg (by omega), show j - 1 + 1 = j by omega]; exact l3⟩
  · rw [(f6 k hk).2.2, (s3 k hk).1, s4 k hk, s5 k hk]
    have h5 := s5 k hk
    have ht : tbw w' (nI k) (n + 1) = if ¬ cm = 0 then (match lbw w x (nI k) n with
        | some i => mdw w i
        | none => tbw w (nI k) n) else tbw w (nI k) n := by
      by_cases c : cm = 0
      · rw [if_neg (fun h => h c)]
        rw [if_pos c] at g4
        rw [tb_succ_ne (by rw [g4]; decide), ag_tb hA (Nat.le_refl _)]
      · rw [if_pos c]
        rw [if_neg c] at g4
        have e1 : tbw w' (nI k) (n + 1) = (match lbw w' (g_A w' 1 n) (nI k) n with
          | some i => mdw w' i
          | none => tbw w' (nI k) n) := if_pos g4
        rw [e1, g5, ag_lb hA (Nat.le_refl _), ag_tb hA (Nat.le_refl _)]
        cases hl : lbw w x (nI k) n with
        | none => rfl
        | some i => exact ag_md hA (lb_lt hl).1
    rw [ht]
    by_cases c : g_A w 9 k = x
    · rw [c]
      by_cases c2 : cm = 0
      · rw [if_neg (fun hh => hh.2.1 c2), if_neg (fun h => h c2)]
      · rw [if_pos c2]
        cases hl : lbw w x (nI k) n with
        | none => rw [if_neg (fun hh => hh.2.2 rfl)]
        | some i => rw [if_pos ⟨rfl, c2, ne2 (md_ok hL (Nat.le_refl _) hl)⟩]
    · rw [if_neg (fun hh => c hh.1)]
      have hn : lbw w x (nI k) n = none := by
        cases hl : lbw w x (nI k) n with
        | none => rfl
        | some i => exact absurd (s6 js' k k1 hk (by rw [hx, hl]; exact fun h => by cases h)) (by rw [hx]; exact c)
      rw [hn]
      split <;> rfl
  · rw [(f6 k hk).2.1, (s3 k hk).1, g6 k (by omega), lbe]
    by_cases c : g_A w 9 k = x
    · rw [if_pos c, if_pos c, lb_neg hL (by omega) (Nat.le_refl _)]
    · rw [if_neg c, if_neg c, s5 k hk]
      cases hl : lbw w (g_A w 9 k) (nI k) n with
      | none => rfl
      | some i => exact (ag_md hA (lb_lt hl).1).symm
  · obtain ⟨i', i1, i2, i3, i4⟩ := hop i hi
    rw [i3, lbe] at e
    have h6 := s6 i' k i1 hk e
    rw [g6 k (by omega), i3, if_neg (by rw [h6, ← i3]; exact hne i hi)]
    exact h6
theorem J_end {n o bg q pl nx cz ep ph lw cut hg ap : Nat} {z' w' : St} {x cm : Int32} (hK : K ≤ 12) (hC : RC K C T le z w) (hS : RS K n o bg z w) (hL : RL K n bg z w) (hP : RP K C n nx pl q z w) (hH : RH K C n nx cz ep t z w) (hW : RW K C n nx pl ph lw cut hg z w) (hKK : RK K C n nx ap le z w) (hF : Fin_ K n o x cm z z') (hE : End_ n o x cm w w') :
    RC K C T le z' w' ∧ RS K (n + 1) (o - 1) bg z' w' ∧ RL K (n + 1) bg z' w' ∧ RP K C (n + 1) nx pl q z' w' ∧ RH K C (n + 1) nx cz ep t z' w' ∧ RW K C (n + 1) nx pl ph lw cut hg z' w' ∧ RK K C (n + 1) nx ap le z' w' := by
  have hX := hF.1
  have hM := hE.1
  have hA := hE.2.2.1
  have hn2 : n ≤ 160 := by have := hS.2.1.2.1; omega
  refine ⟨gr_C hX hM hC, rs_end hS hL hK hF hE, rl_grow hL (Nat.le_refl _) hA hF.2.2.1 ⟨hF.2.2.2.1.2.trans hE.2.2.2.1.2.symm, ?_⟩, gr_P hX hM hA (by omega) hP, gr_H hX hM hA (by omega) hH, gr_W hX hM hA (by omega) hP.2.2.2.2.2.2.1.2.2 hW, gr_K hX hM hA (by omega) hn2 hL hKK⟩
  have e1 := hF.2.2.2.1.1
  have e2 := hE.2.2.2.1.1
  by_cases c : cm = 0
  · rw [if_pos c] at e1 e2; exact Or.inr (Or.inr (Or.inl ⟨e1, e2⟩))
  · rw [if_neg c] at e1 e2; exact Or.inr (Or.inl ⟨e1, e2⟩)
theorem o_end (hK : K ≤ 12) (x1 x2 : Int32) (h : J K C T le t z w) : w_X0_end K x1 x2 z (fun r u => w_M0_end K x1 x2 w (fun r' u' => r = r' ∧ J K C T le (t + 1) u u')) := by
  have hJ := J_up h
  obtain ⟨n, o, bg, q, pl, nx, cz, ep, ph, lw, cut, hg, ap, hC, hS, hL, hP, hH, hW, hKK⟩ := hJ
  have hJ := J_up h
  have hS0 := hS
  obtain ⟨⟨a1, a2, a3, a4, a5, a6⟩, ⟨b1, b2, b3⟩, s1, s2, s3, s4, s5, s6⟩ := hS0
  unfold w_X0_end
  refine x_isOpen a3 b1 (fun ho => ⟨fun h => absurd h (by decide), fun _ => ?_⟩) (fun ho => ⟨fun _ => ?_, fun h => absurd rfl h⟩)
  · obtain ⟨j, j1, j2⟩ := (opn hS).mp ho
    refine x_finish a1 a3 b1 (by omega) hK ho (fun z' hF => ?_)
    refine m_end a2 a4 (by omega) b1 j1 j2 s2 (fun w' hE => ⟨rfl, ?_⟩)
    exact ⟨n + 1, o - 1, bg, q, pl, nx, cz, ep, ph, lw, cut, hg, ap, J_end hK hC hS hL hP hH hW hKK hF hE⟩
  · unfold w_M0_end
    exact m_isOpen a4 b1 (fun ho2 => by obtain ⟨j, j1, j2⟩ := (opn hS).mpr ho2; exact absurd j2 (ho j j1)) (fun _ => ⟨fun h => absurd rfl h, fun _ => ⟨rfl, hJ⟩⟩)
-- all that are open are ended
def FinN (K : Nat) : Nat → Nat → St → St → Prop
  | 0, _, z, z' => z' = z
  | o + 1, n, z, z' => ∃ z1, Fin_ K n (o + 1) (g_A z 1 0) 0 z z1 ∧ FinN K o (n + 1) z1 z'
def EndN : Nat → Nat → St → St → Prop
  | 0, _, w, w' => w' = w
  | o + 1, n, w, w' => ∃ w1, End_ n (o + 1) (g_A w 8 0) 0 w w1 ∧ EndN o (n + 1) w1 w'
theorem J_endN {bg q pl nx cz ep ph lw cut hg ap : Nat} (hK : K ≤ 12) : ∀ (o n : Nat) (z w z' w' : St), RC K C T le z w → RS K n o bg z w → RL K n bg z w → RP K C n nx pl q z w → RH K C n nx cz ep t z w → RW K C n nx pl ph lw cut hg z w → RK K C n nx ap le z w → FinN K o n z z' → EndN o n w w' → J K C T le t z' w'
  | 0, n, z, w, z', w', hC, hS, hL, hP, hH, hW, hKK, hF, hE => by
    have e1 : z' = z := hF
    have e2 : w' = w := hE
    subst e1; subst e2
    exact ⟨n, 0, bg, q, pl, nx, cz, ep, ph, lw, cut, hg, ap, hC, hS, hL, hP, hH, hW, hKK⟩
  | o + 1, n, z, w, z', w', hC, hS, hL, hP, hH, hW, hKK, hF, hE => by
    obtain ⟨z1, f1, f2⟩ := hF
    obtain ⟨w1, e1, e2⟩ := hE
    rw [(hS.2.2.1 0 (by omega)).1] at f1
    obtain ⟨c1, c2, c3, c4, c5, c6, c7⟩ := J_end hK hC hS hL hP hH hW hKK f1 e1
    exact J_endN hK o (n + 1) z1 w1 z' w' c1 c2 c3 c4 c5 c6 c7 f2 e2
theorem x_abortAll_5 {Q : Unit → St → Prop} (hK : K ≤ 12) : ∀ (o n : Nat) (z : St), g_I z 19 = nI n → g_I z 1 = nI o → o ≤ 4 → n + o ≤ 160 → (∀ z', FinN K o n z z' → Q () z') → w_X1_abortAll_5 K Q (o + 1) (nI o) z
  | 0, n, z, h19, h1, h4, hno, hQ => by
    unfold w_X1_abortAll_5
    exact ⟨fun _ => hQ z rfl, fun h => absurd (show nI 0 ≤ 0 by decide) h⟩
  | o + 1, n, z, h19, h1, h4, hno, hQ => by
    unfold w_X1_abortAll_5
    refine ⟨fun h => absurd h (nI_nle (by omega) (by omega)), fun _ => ⟨by show vp_in (nI 0) 4; exact vp_in_nI (by omega) (by omega), ?_⟩⟩
    rw [show (0 : Int32).toNatClampNeg = 0 from rfl, pk_m1]
    refine x_finish h19 h1 h4 (by omega) hK ⟨0, by omega, rfl⟩ (fun z1 hF => ?_)
    exact x_abortAll_5 hK o (n + 1) z1 hF.2.1.1 hF.2.1.2.1 (by omega) (by omega) (fun z' hz => hQ z' ⟨z1, hF, hz⟩)
/-- the open numbers stay apart behind an end -/
theorem end_apart {n o : Nat} {x cm : Int32} {w w1 : St} (hd1 : ∀ i j, i < o → j < o → g_A w 8 i = g_A w 8 j → i = j) (hE : End_ n o x cm w w1) : ∀ i j, i < o - 1 → j < o - 1 → g_A w1 8 i = g_A w1 8 j → i = j := by
  obtain ⟨-, -, -, -, ⟨js, k1, k2, k3⟩, -⟩ := hE
  intro i j hi hj e
  rw [k3 i hi, k3 j hj] at e
  split at e <;> split at e
  · exact hd1 i j (by omega) (by omega) e
  · have := hd1 i (j + 1) (by omega) (by omega) e; omega
  · have := hd1 (i + 1) j (by omega) (by omega) e; omega
  · have := hd1 (i + 1) (j + 1) (by omega) (by omega) e; omega
theorem m_crash_17 {Q : Int32 → St → Prop} : ∀ (d o n j : Nat) (w : St), j + d = 4 → o ≤ d → g_I w 4 = nI n → g_I w 6 = nI o → n + o ≤ 160 → (∀ i j, i < o → j < o → g_A w 8 i = g_A w 8 j → i = j) → (∀ w', EndN o n w w' → Q 1 w') → w_M0_crash_17 K Q (d + 1) (nI j) w
  | 0, o, n, j, w, hd, ho, h4, h6, hno, hd1, hQ => by
    unfold w_M0_crash_17
    have e : j = 4 := by omega
    have e2 : o = 0 := by omega
    subst e; subst e2
    exact ⟨fun _ => hQ w rfl, fun h => absurd (show (4 : Int32) ≤ nI 4 by decide) h⟩
  | d + 1, o, n, j, w, hd, ho, h4, h6, hno, hd1, hQ => by
    unfold w_M0_crash_17
    rw [h6, nI_1]
    refine ⟨fun h => absurd h (nI_ge (b := 4) (by omega) (by omega)), fun _ => ⟨fun h => ?_, fun h => ?_⟩⟩
    · have e : o = 0 := by
        rcases Nat.eq_zero_or_pos o with h0 | h0
        · exact h0
        · exact absurd h (nI_nle h0 (by omega))
      subst e
      exact m_crash_17 d 0 n (j + 1) w (by omega) (by omega) h4 h6 hno hd1 hQ
    · have e : 0 < o := by
        rcases Nat.eq_zero_or_pos o with h0 | h0
        · subst h0; exact absurd (show nI 0 ≤ 0 by decide) h
        · exact h0
      obtain ⟨o', rfl⟩ : ∃ o', o = o' + 1 := ⟨o - 1, by omega⟩
      refine ⟨by show vp_in (nI 0) 4; exact vp_in_nI (by omega) (by omega), ?_⟩
      rw [show (0 : Int32).toNatClampNeg = 0 from rfl]
      refine m_end h4 h6 (by omega) (by omega) (js := 0) (by omega) rfl hd1 (fun w1 hE => ?_)
      exact m_crash_17 d o' (n + 1) (j + 1) w1 (by omega) (by omega) hE.2.1.1 hE.2.1.2.1 (by omega) (end_apart hd1 hE) (fun w' hw => hQ w' ⟨w1, hE, hw⟩)
end EN
