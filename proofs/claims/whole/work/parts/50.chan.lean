/-! the channel -/
def JP (K C T : Nat) (le : Int32) (t n o bg q pl nx cz ep ph lw cut hg ap : Nat) (z w : St) : Prop := RC K C T le z w ∧ RS K n o bg z w ∧ RL K n bg z w ∧ RP K C n nx pl q z w ∧ RH K C n nx cz ep t z w ∧ RW K C n nx pl ph lw cut hg z w ∧ RK K C n nx ap le z w
theorem JP.J {K C T : Nat} {le : Int32} {t n o bg q pl nx cz ep ph lw cut hg ap : Nat} {z w : St} (h : JP K C T le t n o bg q pl nx cz ep ph lw cut hg ap z w) : J K C T le t z w := ⟨n, o, bg, q, pl, nx, cz, ep, ph, lw, cut, hg, ap, h⟩
def xapp (z : St) (cz : Nat) (a b c d : Int32) : St := s_I (s_A (s_A (s_A (s_A z 2 (4 * cz) a) 2 (4 * cz + 1) b) 2 (4 * cz + 2) c) 2 (4 * cz + 3) d) 3 (nI (cz + 1))
def mapp (w : St) (cz : Nat) (a b c d : Int32) : St := s_I (s_A (s_A (s_A (s_A w 13 cz a) 14 cz b) 15 cz c) 16 cz d) 18 (nI (cz + 1))
theorem ixw {i : Nat} (j : Nat) (v : Int32) (hv : v = nI j) (hi : i < 8) (hj : j < 4) : ((nI i * 4) + v).toNatClampNeg = 4 * i + j ∧ vp_in ((nI i * 4) + v) 32 := by
  subst hv
  rw [show (4 : Int32) = nI 4 from rfl, pk_mul, nI_add]
  exact ⟨by rw [nI_clamp (by omega)]; omega, vp_in_nI (by omega) (by omega)⟩
section CHN
variable {K C T : Nat} {le : Int32} {t n o bg q pl nx cz ep ph lw cut hg ap : Nat} {z w : St}
theorem x_append {Q : Int32 → St → Prop} {a b c d : Int32} (h : g_I z 3 = nI cz) (hy : cz < 8 → Q 1 (xapp z cz a b c d)) (hn : 8 ≤ cz → Q 0 z) (h8 : cz ≤ 8) : w_X2_append K a b c d z Q := by
  unfold w_X2_append
  rw [h]
  refine ⟨fun hlt => ?_, fun hlt => hn (Nat.le_of_not_lt (fun h => hlt (nI_lt (b := 8) h (by omega))))⟩
  have hc : cz < 8 := Nat.lt_of_not_le (fun h2 => absurd hlt (nI_nlt (b := 8) h2 (by omega)))
  have i0 := ixw (i := cz) 0 0 rfl hc (by omega)
  have i1 := ixw (i := cz) 1 1 rfl hc (by omega)
  have i2 := ixw (i := cz) 2 2 rfl hc (by omega)
  have i3 := ixw (i := cz) 3 3 rfl hc (by omega)
  rw [i0.1, i1.1, i2.1, i3.1, nI_1]
  exact ⟨i0.2, i1.2, i2.2, i3.2, hy hc⟩
theorem m_add {Q : Unit → St → Prop} {a b c d : Int32} (h : g_I w 18 = nI cz) (hy : cz < 8 → Q () (mapp w cz a b c d)) (hn : 8 ≤ cz → Q () w) (h8 : cz ≤ 8) : w_M0_add K a b c d w Q := by
  unfold w_M0_add
  rw [h]
  refine ⟨fun hle => hn (Nat.le_of_not_lt (fun h2 => absurd hle (nI_ge (b := 8) h2 (by omega)))), fun hle => ?_⟩
  have hc : cz < 8 := Nat.lt_of_not_le (fun h2 => hle (nI_le (a := 8) h2 (by omega)))
  have hin : vp_in (nI cz) 8 := vp_in_nI hc (by omega)
  rw [nI_clamp (by omega), nI_1]
  exact ⟨hin, hin, hin, hin, hy hc⟩
theorem rh_add {a b c d : Int32} (hH : RH K C n nx cz ep t z w) (hc : cz < 8) (hb : ∃ e, e ≤ ep ∧ b = nI e) (hv : b = nI ep → ¬ a = 2 → ∃ p, c = nI p ∧ EV K C nx n z w p) : RH K C n nx (cz + 1) ep t (xapp z cz a b c d) (mapp w cz a b c d) := by
  obtain ⟨⟨g1, g2, g3⟩, he, hp⟩ := hH
  refine ⟨⟨rfl, rfl, by omega⟩, he, fun i hi => ?_⟩
  show (upd (upd (upd (upd (g_A z 2) (4 * cz) a) (4 * cz + 1) b) (4 * cz + 2) c) (4 * cz + 3) d (4 * i) = upd (g_A w 13) cz a i ∧ upd (upd (upd (upd (g_A z 2) (4 * cz) a) (4 * cz + 1) b) (4 * cz + 2) c) (4 * cz + 3) d (4 * i + 1) = upd (g_A w 14) cz b i ∧ upd (upd (upd (upd (g_A z 2) (4 * cz) a) (4 * cz + 1) b) (4 * cz + 2) c) (4 * cz + 3) d (4 * i + 2) = upd (g_A w 15) cz c i ∧ upd (upd (upd (upd (g_A z 2) (4 * cz) a) (4 * cz + 1) b) (4 * cz + 2) c) (4 * cz + 3) d (4 * i + 3) = upd (g_A w 16) cz d i) ∧ (∃ e, e ≤ ep ∧ upd (g_A w 14) cz b i = nI e) ∧ (upd (g_A w 14) cz b i = nI ep → ¬ upd (g_A w 13) cz a i = 2 → ∃ p, upd (g_A w 15) cz c i = nI p ∧ EV K C nx n z w p)
  by_cases e : i = cz
  · subst e
    simp only [upd_at, if_true]
    refine ⟨⟨?_, ?_, ?_, ?_⟩, hb, hv⟩
    · rw [if_neg (by omega), if_neg (by omega), if_neg (by omega)]
    · rw [if_neg (by omega), if_neg (by omega)]
    · rw [if_neg (by omega)]
    · trivial
  · obtain ⟨q1, q2, q3⟩ := hp i (by omega)
    simp only [upd_at, if_neg e]
    refine ⟨⟨?_, ?_, ?_, ?_⟩, q2, q3⟩
    · rw [if_neg (by omega), if_neg (by omega), if_neg (by omega), if_neg (by omega)]; exact q1.1
    · rw [if_neg (by omega), if_neg (by omega), if_neg (by omega), if_neg (by omega)]; exact q1.2.1
    · rw [if_neg (by omega), if_neg (by omega), if_neg (by omega), if_neg (by omega)]; exact q1.2.2.1
    · rw [if_neg (by omega), if_neg (by omega), if_neg (by omega), if_neg (by omega)]; exact q1.2.2.2
theorem x_holds {Q : Int32 → St → Prop} {x : Int32} (h : g_I z 3 = nI cz) (h8 : cz ≤ 8) (hy : ∀ i, i < cz → x = nI i → Q 1 z) (hn : (x < 0 ∨ nI cz ≤ x) → Q 0 z) : w_X2_holds K x z Q := by
  unfold w_X2_holds
  rw [h]
  rcases pk_ix x (n := cz) (by omega) with h1 | h1 | ⟨j, hj, rfl⟩
  · exact ⟨fun _ => hn (Or.inl h1), fun h2 => absurd h1 h2⟩
  · exact ⟨fun _ => hn (Or.inr h1), fun _ => ⟨fun _ => hn (Or.inr h1), fun h2 => absurd h1 h2⟩⟩
  · exact ⟨fun h => absurd h (nI_pos (by omega)), fun _ => ⟨fun h => absurd h (nI_ge hj (by omega)), fun _ => hy j hj rfl⟩⟩
theorem x_word {Q : Int32 → St → Prop} {i j : Nat} {x y : Int32} (hx : x = nI i) (hy : y = nI j) (hi : i < 8) (hj : j < 4) (hQ : Q (g_A z 2 (4 * i + j)) z) : w_X2_word K x y z Q := by
  subst hx
  have h := ixw (i := i) j y hy hi hj
  unfold w_X2_word
  rw [h.1]
  exact ⟨h.2, hQ⟩
theorem o_packet (x1 x2 : Int32) (h : J K C T le t z w) : w_X0_packet K x1 x2 z (fun r u => w_M0_packet K x1 x2 w (fun r' u' => r = r' ∧ J K C T le (t + 1) u u')) := by
  have hJ := J_up h
  obtain ⟨n, o, bg, q, pl, nx, cz, ep, ph, lw, cut, hg, ap, hC, hS, hL, hP, hH, hW, hKK⟩ := h
  obtain ⟨⟨g1, g2, g3⟩, he, hp⟩ := hH
  unfold w_X0_packet
  refine x_holds g1 g3 (fun i hi e => ⟨fun h => absurd h (by decide), fun _ => ?_⟩) (fun hb => ⟨fun _ => ?_, fun h => absurd rfl h⟩)
  · subst e
    have hin : vp_in (nI i) 8 := vp_in_nI (by omega) (by omega)
    have m1 : ¬ nI i < 0 := nI_pos (by omega)
    have m2 : ¬ g_I w 18 ≤ nI i := by rw [g2]; exact nI_ge hi (by omega)
    obtain ⟨⟨q0, q1, q2, q3⟩, -⟩ := hp i hi
    refine ⟨fun c1 => ?_, fun c1 => ⟨fun c2 => ?_, fun c2 => ?_⟩⟩
    · unfold w_M0_packet
      exact ⟨fun h => absurd h m1, fun _ => ⟨fun h => absurd h m2, fun _ => ⟨fun _ => ⟨rfl, hJ⟩, fun h => absurd c1 h⟩⟩⟩
    · unfold w_M0_packet
      refine ⟨fun h => absurd h m1, fun _ => ⟨fun h => absurd h m2, fun _ => ⟨fun h => absurd h c1, fun _ => ⟨fun c3 => ?_, fun _ => ⟨rfl, hJ⟩⟩⟩⟩⟩
      exfalso
      rw [Int32.le_iff_toInt_le] at c2 c3
      have e3 : (3 : Int32).toInt = 3 := by decide
      have e4 : (4 : Int32).toInt = 4 := by decide
      omega
    · obtain ⟨j, hj, rfl⟩ := nI_of c1
      have hj4 : j < 4 := Nat.lt_of_not_le (fun h => c2 (nI_le (a := 4) h (by omega)))
      refine x_word rfl rfl (by omega) hj4 ?_
      unfold w_M0_packet
      rw [nI_clamp (show i < 2 ^ 31 by omega)]
      refine ⟨fun h => absurd h m1, fun _ => ⟨fun h => absurd h m2, fun _ => ⟨fun h => absurd h c1, fun _ => ⟨fun _ => ?_, fun h => absurd (nI_le (b := 3) (by omega) (by omega)) h⟩⟩⟩⟩
      rcases (show j = 0 ∨ j = 1 ∨ j = 2 ∨ j = 3 by omega) with rfl | rfl | rfl | rfl
      · exact ⟨fun h => absurd rfl h, fun _ => ⟨hin, q0, hJ⟩⟩
      · exact ⟨fun _ => ⟨fun h => absurd rfl h, fun _ => ⟨hin, q1, hJ⟩⟩, fun h => absurd h (by decide)⟩
      · exact ⟨fun _ => ⟨fun _ => ⟨fun h => absurd rfl h, fun _ => ⟨hin, q2, hJ⟩⟩, fun h => absurd h (by decide)⟩, fun h => absurd h (by decide)⟩
      · exact ⟨fun _ => ⟨fun _ => ⟨fun _ => ⟨hin, q3, hJ⟩, fun h => absurd h (by decide)⟩, fun h => absurd h (by decide)⟩, fun h => absurd h (by decide)⟩
  · unfold w_M0_packet
    rw [g2]
    rcases hb with hb | hb
    · exact ⟨fun _ => ⟨rfl, hJ⟩, fun h => absurd hb h⟩
    · exact ⟨fun _ => ⟨rfl, hJ⟩, fun _ => ⟨fun _ => ⟨rfl, hJ⟩, fun h => absurd hb h⟩⟩
-- a packet taken out
def xtk (z : St) (cz i : Nat) : St := s_F (s_I z 3 (nI (cz - 1))) 2 (va_cpy (g_A z 2) (g_A z 2) (4 * (i + 1)) (4 * i) (4 * (cz - 1 - i)))
theorem x_takeOut {Q : Unit → St → Prop} {i : Nat} {x : Int32} (hx : x = nI i) (h : g_I z 3 = nI cz) (h8 : cz ≤ 8) (hi : i < cz) (hQ : Q () (xtk z cz i)) : w_X2_takeOut K x z Q := by
  subst hx
  unfold w_X2_takeOut
  obtain ⟨c, rfl⟩ : ∃ c, cz = c + 1 := ⟨cz - 1, by omega⟩
  have e4 : (4 : Int32) = nI 4 := rfl
  rw [h, i_pn, nI_1, e4, pk_mul, pk_mul, pk_sub (show i ≤ c by omega), pk_mul, nI_clamp (by omega), nI_clamp (by omega), nI_clamp (by omega)]
  refine ⟨nI_pos (by omega), nI_pos (by omega), nI_pos (by omega), by omega, by omega, ?_⟩
  have e1 : (i + 1) * 4 = 4 * (i + 1) := by omega
  have e2 : i * 4 = 4 * i := by omega
  have e3 : (c - i) * 4 = 4 * (c + 1 - 1 - i) := by omega
  rw [e1, e2, e3]
  exact hQ
def s4m (w : St) (f g h k : Nat → Int32) : St := (w.1, fun a => if a = 13 then f else if a = 14 then g else if a = 15 then h else if a = 16 then k else w.2.1 a, w.2.2)
theorem s4m_id (w : St) : s4m w (g_A w 13) (g_A w 14) (g_A w 15) (g_A w 16) = w := by
  have e : (fun a => if a = 13 then g_A w 13 else if a = 14 then g_A w 14 else if a = 15 then g_A w 15 else if a = 16 then g_A w 16 else w.2.1 a) = w.2.1 := by
    funext a
    split
    · rename_i h; rw [h]; rfl
    · split
      · rename_i h; rw [h]; rfl
      · split
        · rename_i h; rw [h]; rfl
        · split
          · rename_i h; rw [h]; rfl
          · rfl
  unfold s4m
  rw [e]
theorem s4m_up (w : St) (f g h k : Nat → Int32) (j : Nat) (a b c d : Int32) : s_A (s_A (s_A (s_A (s4m w f g h k) 13 j a) 14 j b) 15 j c) 16 j d = s4m w (upd f j a) (upd g j b) (upd h j c) (upd k j d) := by
  have e : va_up (va_up (va_up (va_up (fun a => if a = 13 then f else if a = 14 then g else if a = 15 then h else if a = 16 then k else w.2.1 a) 13 (upd f j a)) 14 (upd g j b)) 15 (upd h j c)) 16 (upd k j d) = (fun x => if x = 13 then upd f j a else if x = 14 then upd g j b else if x = 15 then upd h j c else if x = 16 then upd k j d else w.2.1 x) := by
    funext x
    simp only [va_up]
    by_cases h1 : x = 13
    · subst h1; simp
    · by_cases h2 : x = 14
      · subst h2; simp
      · by_cases h3 : x = 15
        · subst h3; simp
        · by_cases h4 : x = 16
          · subst h4; simp
          · simp [h1, h2, h3, h4]
  show (w.1, va_up (va_up (va_up (va_up (fun a => if a = 13 then f else if a = 14 then g else if a = 15 then h else if a = 16 then k else w.2.1 a) 13 (upd f j a)) 14 (upd g j b)) 15 (upd h j c)) 16 (upd k j d), w.2.2) = _
  rw [e]; rfl
def shf (i : Nat) (f : Nat → Int32) (c : Nat) (g : Nat → Int32) : Prop := ∀ j, j < c → g j = if j < i then f j else f (j + 1)
/-- shifted below j, as it was from j on -/
def shj (i j : Nat) (f g : Nat → Int32) : Prop := (∀ x, x < j → g x = if x < i then f x else f (x + 1)) ∧ ∀ x, j ≤ x → g x = f x
theorem shj_step {i j : Nat} {f g : Nat → Int32} (h : shj i j f g) (hij : i ≤ j) : shj i (j + 1) f (upd g j (g (j + 1))) := by
  refine ⟨fun x hx => ?_, fun x hx => ?_⟩
  · rw [upd_at]
    by_cases e : x = j
    · rw [if_pos e, if_neg (by omega), h.2 (j + 1) (by omega), e]
    · rw [if_neg e]; exact h.1 x (by omega)
  · rw [upd_at, if_neg (by omega)]; exact h.2 x (by omega)
theorem m_take_12 {Q : Unit → St → Prop} {i : Nat} {wb : St} (hc : g_I wb 18 = nI cz) (h8 : cz ≤ 7) (hQ : ∀ f g h k, shf i (g_A wb 13) cz f → shf i (g_A wb 14) cz g → shf i (g_A wb 15) cz h → shf i (g_A wb 16) cz k → Q () (s4m wb f g h k)) : ∀ d j f g h k, j + d = cz → i ≤ j → shj i j (g_A wb 13) f → shj i j (g_A wb 14) g → shj i j (g_A wb 15) h → shj i j (g_A wb 16) k → w_M0_take_12 K Q (d + 1) (nI j) (s4m wb f g h k)
  | 0, j, f, g, h, k, hd, hij, h1, h2, h3, h4 => by
    unfold w_M0_take_12
    have e : j = cz := by omega
    subst e
    have hc' : g_I (s4m wb f g h k) 18 = nI j := hc
    rw [hc']
    exact ⟨fun _ => hQ f g h k h1.1 h2.1 h3.1 h4.1, fun hh => absurd (nI_le (Nat.le_refl _) (by omega)) hh⟩
  | d + 1, j, f, g, h, k, hd, hij, h1, h2, h3, h4 => by
    unfold w_M0_take_12
    have hc' : g_I (s4m wb f g h k) 18 = nI cz := hc
    have hi1 : vp_in (nI (j + 1)) 8 := vp_in_nI (by omega) (by omega)
    have hi0 : vp_in (nI j) 8 := vp_in_nI (by omega) (by omega)
    rw [hc', nI_1, nI_clamp (show j < 2 ^ 31 by omega), nI_clamp (show j + 1 < 2 ^ 31 by omega), s4m_up]
    exact ⟨fun hh => absurd hh (nI_ge (by omega) (by omega)), fun _ => ⟨hi1, hi0, hi1, hi0, hi1, hi0, hi1, hi0, m_take_12 hc h8 hQ d (j + 1) _ _ _ _ (by omega) (by omega) (shj_step h1 hij) (shj_step h2 hij) (shj_step h3 hij) (shj_step h4 hij)⟩⟩
theorem shj_0 (i : Nat) (f : Nat → Int32) : shj i i f f := ⟨fun x hx => by rw [if_pos hx], fun _ _ => rfl⟩
/-- what is behind a take: the packets from i on are one place lower -/
theorem m_take {Q : Unit → St → Prop} {i : Nat} {x : Int32} (hx : x = nI i) (hc : g_I w 18 = nI cz) (h8 : cz ≤ 8) (hi : i < cz) (hQ : ∀ f g h k, shf i (g_A w 13) (cz - 1) f → shf i (g_A w 14) (cz - 1) g → shf i (g_A w 15) (cz - 1) h → shf i (g_A w 16) (cz - 1) k → Q () (s4m (s_I w 18 (nI (cz - 1))) f g h k)) : w_M0_take K x w Q := by
  subst hx
  unfold w_M0_take
  obtain ⟨c, rfl⟩ : ∃ c, cz = c + 1 := ⟨cz - 1, by omega⟩
  rw [hc, i_pn]
  rw [← s4m_id (s_I w 18 (nI c))]
  exact ⟨_, m_take_12 (cz := c) (wb := s_I w 18 (nI c)) rfl (by omega) hQ (c - i) i _ _ _ _ (by omega) (Nat.le_refl _) (shj_0 i _) (shj_0 i _) (shj_0 i _) (shj_0 i _)⟩
theorem rh_take {i : Nat} {f g h k : Nat → Int32} (hH : RH K C n nx cz ep t z w) (hi : i < cz) (h1 : shf i (g_A w 13) (cz - 1) f) (h2 : shf i (g_A w 14) (cz - 1) g) (h3 : shf i (g_A w 15) (cz - 1) h) (h4 : shf i (g_A w 16) (cz - 1) k) : RH K C n nx (cz - 1) ep t (xtk z cz i) (s4m (s_I w 18 (nI (cz - 1))) f g h k) := by
  obtain ⟨⟨g1, g2, g3⟩, he, hp⟩ := hH
  refine ⟨⟨rfl, rfl, by omega⟩, he, fun j hj => ?_⟩
  show (va_cpy (g_A z 2) (g_A z 2) (4 * (i + 1)) (4 * i) (4 * (cz - 1 - i)) (4 * j) = f j ∧ va_cpy (g_A z 2) (g_A z 2) (4 * (i + 1)) (4 * i) (4 * (cz - 1 - i)) (4 * j + 1) = g j ∧ va_cpy (g_A z 2) (g_A z 2) (4 * (i + 1)) (4 * i) (4 * (cz - 1 - i)) (4 * j + 2) = h j ∧ va_cpy (g_A z 2) (g_A z 2) (4 * (i + 1)) (4 * i) (4 * (cz - 1 - i)) (4 * j + 3) = k j) ∧ (∃ e, e ≤ ep ∧ g j = nI e) ∧ (g j = nI ep → ¬ f j = 2 → ∃ p, h j = nI p ∧ EV K C nx n z w p)
  rw [h1 j hj, h2 j hj, h3 j hj, h4 j hj]
  by_cases e : j < i
  · obtain ⟨⟨q0, q1, q2, q3⟩, q4, q5⟩ := hp j (by omega)
    simp only [if_pos e]
    rw [pk_cpy_out (by omega), pk_cpy_out (by omega), pk_cpy_out (by omega), pk_cpy_out (by omega)]
    exact ⟨⟨q0, q1, q2, q3⟩, q4, q5⟩
  · obtain ⟨⟨q0, q1, q2, q3⟩, q4, q5⟩ := hp (j + 1) (by omega)
    simp only [if_neg e]
    rw [pk_cpy_in (by omega) (by omega), pk_cpy_in (by omega) (by omega), pk_cpy_in (by omega) (by omega), pk_cpy_in (by omega) (by omega)]
    rw [show 4 * (i + 1) + (4 * j - 4 * i) = 4 * (j + 1) by omega, show 4 * (i + 1) + (4 * j + 1 - 4 * i) = 4 * (j + 1) + 1 by omega, show 4 * (i + 1) + (4 * j + 2 - 4 * i) = 4 * (j + 1) + 2 by omega, show 4 * (i + 1) + (4 * j + 3 - 4 * i) = 4 * (j + 1) + 3 by omega]
    exact ⟨⟨q0, q1, q2, q3⟩, q4, q5⟩
theorem o_alter (x1 x2 : Int32) (hb2 : x2 = 0 ∨ x2 = 1) (h : J K C T le t z w) : w_X0_alter K x1 x2 z (fun r u => w_M0_alter K x1 x2 w (fun r' u' => r = r' ∧ J K C T le (t + 1) u u')) := by
  have hJ := J_up h
  obtain ⟨n, o, bg, q, pl, nx, cz, ep, ph, lw, cut, hg, ap, hC, hS, hL, hP, hH, hW, hKK⟩ := hJ
  have hJ := J_up h
  have hH0 := hH
  obtain ⟨⟨g1, g2, g3⟩, he, hp⟩ := hH0
  unfold w_X0_alter
  refine x_holds g1 g3 (fun i hi e => ⟨fun _ => ⟨fun c => ?_, fun c => ?_⟩, fun h => absurd h (by decide)⟩) (fun hb => ⟨fun h => absurd rfl h, fun _ => ?_⟩)
  · subst e; subst c
    have m1 : ¬ nI i < 0 := nI_pos (by omega)
    have m2 : ¬ g_I w 18 ≤ nI i := by rw [g2]; exact nI_ge hi (by omega)
    refine x_takeOut rfl g1 g3 hi ?_
    unfold w_M0_alter
    refine ⟨fun h => absurd h m1, fun _ => ⟨fun h => absurd h m2, fun _ => ⟨fun _ => ⟨fun _ => ?_, fun h => absurd rfl h⟩, fun h => absurd rfl h⟩⟩⟩
    refine m_take rfl g2 g3 hi (fun f g h k h1 h2 h3 h4 => ⟨rfl, ?_⟩)
    exact ⟨n, o, bg, q, pl, nx, cz - 1, ep, ph, lw, cut, hg, ap, hC, hS, hL, hP, rh_take hH hi h1 h2 h3 h4, hW, hKK⟩
  · subst e
    have m1 : ¬ nI i < 0 := nI_pos (by omega)
    have m2 : ¬ g_I w 18 ≤ nI i := by rw [g2]; exact nI_ge hi (by omega)
    have hin : vp_in (nI i) 8 := vp_in_nI (by omega) (by omega)
    obtain ⟨⟨q0, q1, q2, q3⟩, q4, q5⟩ := hp i hi
    unfold w_X2_repeat
    refine x_word (j := 0) rfl rfl (by omega) (by omega) (x_word (j := 1) rfl rfl (by omega) (by omega) (x_word (j := 2) rfl rfl (by omega) (by omega) (x_word (j := 3) rfl rfl (by omega) (by omega) ?_)))
    rw [show 4 * i + 0 = 4 * i from rfl, q0, q1, q2, q3]
    refine x_append g1 (fun hc => ⟨nar1, nar1, ?_⟩) (fun hc => ⟨nar0, nar0, ?_⟩) g3
    · unfold w_M0_alter
      rw [nI_clamp (show i < 2 ^ 31 by omega)]
      refine ⟨fun h => absurd h m1, fun _ => ⟨fun h => absurd h m2, fun _ => ⟨fun h => absurd h c, fun _ => ⟨fun _ => ⟨fun h => absurd h c, fun _ => ⟨hin, hin, hin, hin, ?_⟩⟩, fun h => absurd (by rw [g2]; exact nI_lt (b := 8) hc (by omega)) h⟩⟩⟩⟩
      refine m_add g2 (fun _ => ⟨rfl, ?_⟩) (fun h => by omega) g3
      exact ⟨n, o, bg, q, pl, nx, cz + 1, ep, ph, lw, cut, hg, ap, hC, hS, hL, hP, rh_add hH hc q4 q5, hW, hKK⟩
    · unfold w_M0_alter
      exact ⟨fun h => absurd h m1, fun _ => ⟨fun h => absurd h m2, fun _ => ⟨fun h => absurd h c, fun _ => ⟨fun h => absurd h (by rw [g2]; exact nI_nlt (b := 8) hc (by omega)), fun _ => ⟨rfl, hJ⟩⟩⟩⟩⟩
  · unfold w_M0_alter
    rw [g2]
    rcases hb with hb | hb
    · exact ⟨fun _ => ⟨rfl, hJ⟩, fun h => absurd hb h⟩
    · exact ⟨fun _ => ⟨rfl, hJ⟩, fun _ => ⟨fun _ => ⟨rfl, hJ⟩, fun h => absurd hb h⟩⟩
end CHN
