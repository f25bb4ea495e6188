/-! whole arrays; snapshot -/
def s_G (z : St) (k : Nat) (f : Nat → Int64) : St := (z.1, z.2.1, va_up z.2.2 k f)
theorem sA_sF (z : St) (a k : Nat) (f : Nat → Int32) (v : Int32) : s_A (s_F z a f) a k v = s_F z a (upd f k v) := by
  show (z.1, va_up (va_up z.2.1 a f) a (upd (va_up z.2.1 a f a) k v), z.2.2) = (z.1, va_up z.2.1 a (upd f k v), z.2.2)
  rw [va_up_self, bx_uu]
theorem sL_sG (z : St) (a k : Nat) (f : Nat → Int64) (v : Int64) : s_L (s_G z a f) a k v = s_G z a (vp_updL f k v) := by
  show (z.1, z.2.1, va_up (va_up z.2.2 a f) a (vp_updL (va_up z.2.2 a f a) k v)) = (z.1, z.2.1, va_up z.2.2 a (vp_updL f k v))
  rw [va_up_self, bx_uu]
theorem up_id {α : Type} (f : Nat → α) (k : Nat) : va_up f k (f k) = f := by
  funext j
  by_cases h : j = k
  · rw [h, va_up_self]
  · exact va_up_ne _ _ h
theorem sF_id (z : St) (a : Nat) : s_F z a (g_A z a) = z := by
  show (z.1, va_up z.2.1 a (z.2.1 a), z.2.2) = z
  rw [up_id]
theorem sG_id (z : St) (a : Nat) : s_G z a (g_L z a) = z := by
  show (z.1, z.2.1, va_up z.2.2 a (z.2.2 a)) = z
  rw [up_id]
section SN
variable {K C T : Nat} {le : Int32} {t : Nat} {z w : St}
theorem rs_same {n o bg : Nat} {z' w' : St} (h : RS K n o bg z w) (hroom : n + 1 + o ≤ 160)
    (z19 : g_I z' 19 = nI (n + 1)) (z1 : g_I z' 1 = g_I z 1) (z2 : g_I z' 2 = g_I z 2) (zA0 : g_A z' 0 = g_A z 0) (zA1 : g_A z' 1 = g_A z 1) (zL0 : g_L z' 0 = g_L z 0) (zL1 : g_L z' 1 = g_L z 1)
    (w4 : g_I w' 4 = nI (n + 1)) (w6 : g_I w' 6 = g_I w 6) (w5 : g_I w' 5 = g_I w 5) (w8 : g_A w' 8 = g_A w 8) (w9 : g_A w' 9 = g_A w 9) (hA : Ag n w w') (e0 : ¬ (g_A w' 0 n = 1 ∨ g_A w' 0 n = 2)) (e3 : ¬ g_A w' 0 n = 3) : RS K (n + 1) o bg z' w' := by
  obtain ⟨⟨a1, a2, a3, a4, a5, a6⟩, ⟨b1, b2, b3⟩, s1, s2, s3, s4, s5, s6⟩ := h
  have lbe : ∀ (m k : Int32), lbw w' m k (n + 1) = lbw w m k n := fun m k => (lb_succ_ne (fun hh => e0 hh.2.2)).trans (ag_lb hA (Nat.le_refl _))
  unfold RS
  rw [z19, z1, z2, zA0, zA1, zL0, zL1, w4, w6, w5, w8, w9]
  refine ⟨⟨rfl, rfl, a3, a4, a5, a6⟩, ⟨b1, by omega, by omega⟩, s1, s2, s3, fun k hk => ?_, fun k hk => ?_, fun j k hj hk e => ?_⟩
  · rw [tb_succ_ne e3, ag_tb hA (Nat.le_refl _)]; exact s4 k hk
  · rw [lbe, s5 k hk]
    cases hl : lbw w (g_A w 9 k) (nI k) n with
    | none => rfl
    | some i => exact (ag_md hA (lb_lt hl).1).symm
  · rw [lbe] at e; exact s6 j k hj hk e
theorem x_start_12 {Q : Unit → St → Prop} (hK : K ≤ 12) (hQ : ∀ f, (∀ k, k < K → f k = 0) → Q () (s_F z 9 f)) : ∀ d k f, k + d = K → (∀ i, i < k → f i = 0) → w_X6_start_12 K Q (d + 1) (nI k) (s_F z 9 f)
  | 0, k, f, hd, hf => by
    unfold w_X6_start_12
    have e : k = K := by omega
    subst e
    exact ⟨fun _ => hQ f hf, fun h => absurd (nI_le (Nat.le_refl _) (by omega)) h⟩
  | d + 1, k, f, hd, hf => by
    unfold w_X6_start_12
    rw [nI_clamp (by omega), nI_1, sA_sF]
    refine ⟨fun h => absurd h (nI_ge (show k < K by omega) (by omega)), fun _ => ⟨vp_in_nI (by omega) (by omega), x_start_12 hK hQ d (k + 1) _ (by omega) (fun i hi => ?_)⟩⟩
    rw [upd_at]
    by_cases e : i = k
    · rw [if_pos e]
    · rw [if_neg e]; exact hf i (by omega)
theorem x_start {Q : Unit → St → Prop} {x : Int32} (hK : K ≤ 12) (hQ : ∀ f, (∀ k, k < K → f k = 0) → Q () (s_F (s_I (s_I z 20 1) 21 x) 9 f)) : w_X6_start K x z Q := by
  unfold w_X6_start
  rw [← sF_id (s_I (s_I z 20 1) 21 x) 9]
  exact ⟨_, x_start_12 hK hQ K 0 _ (by omega) (fun i hi => by omega)⟩
theorem x_select_8 {Q : Unit → St → Prop} {b : Nat} (hb : b ≤ K) (hK : K ≤ 12) (a : Nat) (hQ : ∀ f, (∀ k, a ≤ k → k < b → f k = g_L z 0 k) → Q () (s_G z 5 f)) : ∀ d k f, k + d = b → a ≤ k → (∀ i, a ≤ i → i < k → f i = g_L z 0 i) → w_X6_select_8 K Q (d + 1) (nI b) (nI k) (s_G z 5 f)
  | 0, k, f, hd, ha, hf => by
    unfold w_X6_select_8
    have e : k = b := by omega
    subst e
    exact ⟨fun _ => hQ f hf, fun h => absurd (nI_le (Nat.le_refl _) (by omega)) h⟩
  | d + 1, k, f, hd, ha, hf => by
    unfold w_X6_select_8 w_X1_inTable
    have hin : vp_in (nI k) K := vp_in_nI (by omega) (by omega)
    rw [nI_clamp (by omega), nI_1]
    dsimp only
    rw [sL_sG]
    refine ⟨fun h => absurd h (nI_ge (show k < b by omega) (by omega)), fun _ => ⟨hin, hin, x_select_8 hb hK a hQ d (k + 1) _ (by omega) (by omega) (fun i h1 h2 => ?_)⟩⟩
    rw [updL_at]
    by_cases e : i = k
    · rw [if_pos e, e]; rfl
    · rw [if_neg e]; exact hf i h1 (by omega)
theorem after_eq {nx : Nat} (hC6 : C ≤ 6) (hK : K ≤ 12) (hnx : nx ≤ 20) : (if nI K < (nI nx + nI C) then nI K else (nI nx + nI C)) = nI (min (nx + C) K) := by
  rw [nI_add]
  by_cases h : K < nx + C
  · rw [if_pos (nI_lt h (by omega)), Nat.min_eq_right (by omega)]
  · rw [if_neg (nI_nlt (by omega) (by omega)), Nat.min_eq_left (by omega)]
theorem o_snapshot (hK : K ≤ 12) (hC6 : C ≤ 6) (hC1 : 1 ≤ C) (h : J K C T le t z w) : w_X0_snapshot K z (fun r u => w_M0_snapshot K w (fun r' u' => r = r' ∧ J K C T le (t + 1) u u')) := by
  have hJ := J_up h
  obtain ⟨n, o, bg, q, pl, nx, cz, ep, ph, lw, cut, hg, ap, hC, hS, hL, hP, hH, hW, hKK⟩ := hJ
  have hJ := J_up h
  have hS0 := hS
  obtain ⟨⟨a1, a2, a3, a4, a5, a6⟩, ⟨b1, b2, b3⟩, s1, s2, s3, s4, s5, s6⟩ := hS0
  have hC0 := hC
  obtain ⟨c1, c2, c3, c4, c5, c6, c7, c8, c9, c10⟩ := hC0
  have hP0 := hP
  obtain ⟨⟨p1, p2, p3⟩, pq, po, ptm, ⟨pf1, pf2⟩, plast, ⟨pp1, pp2, pp3⟩, ⟨pn1, pn2, pn3⟩⟩ := hP0
  have hW0 := hW
  obtain ⟨⟨w1, w2, w3⟩, wl, wc, wh⟩ := hW0
  unfold w_X0_snapshot w_X3_advanceChunk
  have ph0 : g_I z 20 = g_I w 12 := w1.trans w2.symm
  refine ⟨fun e0 => ?_, fun e0 => ⟨fun e1 => ?_, fun e1 => ⟨fun e2 => ?_, fun e2 => ?_⟩⟩⟩
  · -- a new chunk
    have eph : ph = 0 := by rw [w1] at e0; exact (nI_eq (b := 0) (by omega) (by omega)).mp e0
    have f0 : g_I w 12 = 0 := ph0.symm.trans e0
    have n3 : ¬ g_I w 12 = 3 := by rw [f0]; decide
    have n1 : ¬ g_I w 12 = 1 := by rw [f0]; decide
    unfold w_X3_beginChunk
    refine ⟨fun hlt => ?_, fun hlt => ?_⟩
    · rw [pn1, c3, nI_ltI (by omega) (by omega)] at hlt
      have hlt2 : g_I w 11 < g_I w 0 := by rw [pn2, c2]; exact nI_lt hlt (by omega)
      refine x_hasRoom 1 0 a1 a3 (by omega) b1 (by omega) (by omega) rfl rfl (fun hr => ⟨fun _ => ?_, fun h => absurd h (by decide)⟩) (fun hr => ⟨fun h => absurd rfl h, fun _ => ?_⟩)
      · refine x_write (n := n) a1 (by omega) ?_
        refine x_start hK (fun f hf => ?_)
        unfold w_M0_snapshot
        refine ⟨fun h => absurd h n3, fun _ => ⟨fun h => absurd f0 h, fun _ => ⟨fun _ => ⟨fun _ => ?_, fun h => absurd h n1⟩, fun h => absurd hlt2 h⟩⟩⟩
        refine m_room 1 0 a2 a4 (by omega) b1 (by omega) (by omega) rfl rfl (fun _ => ⟨fun _ => ⟨fun h => absurd f0 h, fun _ => ?_⟩, fun h => absurd h (by decide)⟩) (fun h => by omega)
        refine m_write (n := n) a2 (by omega) ⟨rfl, ?_⟩
        have hX : SX z (zw z n 3 (-1) (-1) (-1)) := ⟨rfl, rfl, rfl, rfl, rfl, rfl, rfl, rfl, rfl, rfl, rfl, rfl, rfl, rfl, rfl, rfl, rfl, rfl, rfl, rfl, rfl, rfl, rfl, rfl, rfl, rfl, rfl, rfl⟩
        have hM : SM w (ww w n 5 (-1) (-1)) := ⟨rfl, rfl, rfl, rfl, rfl, rfl, rfl, rfl, rfl, rfl, rfl, rfl, rfl, rfl, rfl, rfl, rfl, rfl, rfl, rfl, rfl, rfl, rfl, rfl, rfl, rfl⟩
        have hA : Ag n w (ww w n 5 (-1) (-1)) := ag_ww
        have k5 : g_A (ww w n 5 (-1) (-1)) 0 n = 5 := pk_us
        have hS' : RS K (n + 1) o bg (zw z n 3 (-1) (-1) (-1)) (ww w n 5 (-1) (-1)) := rs_same hS (by omega) rfl rfl rfl rfl rfl rfl rfl rfl rfl rfl rfl rfl hA (by rw [k5]; decide) (by rw [k5]; decide)
        have hL' : RL K (n + 1) bg (zw z n 3 (-1) (-1) (-1)) (ww w n 5 (-1) (-1)) := rl_grow hL (Nat.le_refl _) hA (fun i hi => ⟨upd_lt hi, upd_lt hi, upd_lt hi, updL_lt hi⟩) ⟨pk_us.trans pk_us.symm, Or.inr (Or.inr (Or.inr (Or.inl ⟨pk_us, pk_us⟩)))⟩
        have hK' := gr_K hX hM hA (Nat.le_succ n) (by omega) hL hKK
        have hC' := gr_C hX hM hC
        have hP' := gr_P hX hM hA (Nat.le_succ n) hP
        have hH' := gr_H hX hM hA (Nat.le_succ n) hH
        refine ⟨n + 1, o, bg, q, pl, nx, cz, ep, 1, n, 0, 0, ap, hC', hS', hL', hP', hH', ⟨⟨rfl, rfl, by omega⟩, fun _ => ⟨hlt, rfl, rfl, by omega, ?_, fun k hk => ?_⟩, fun h => by omega, fun h => by omega⟩, hK'⟩
        · exact pf2
        · show f k = _
          rw [hf k hk]
          have e : skw (ww w n 5 (-1) (-1)) (nI k) n pl = false := sk_small pl (by omega)
          have e' : skw (s_I (s_I (ww w n 5 (-1) (-1)) 13 (nI n)) 12 1) (nI k) n pl = false := e
          rw [e']; rfl
      · unfold w_M0_snapshot
        refine ⟨fun h => absurd h n3, fun _ => ⟨fun h => absurd f0 h, fun _ => ⟨fun _ => ⟨fun _ => ?_, fun h => absurd h n1⟩, fun h => absurd hlt2 h⟩⟩⟩
        exact m_room 1 0 a2 a4 (by omega) b1 (by omega) (by omega) rfl rfl (fun h => by omega) (fun _ => ⟨fun h => absurd rfl h, fun _ => ⟨rfl, hJ⟩⟩)
    · have hlt2 : ¬ g_I w 11 < g_I w 0 := by rw [pn2, c2]; rw [pn1, c3] at hlt; exact hlt
      unfold w_M0_snapshot
      exact ⟨fun _ => ⟨rfl, hJ⟩, fun _ => ⟨fun h => absurd f0 h, fun _ => ⟨fun h => absurd h hlt2, fun _ => ⟨rfl, hJ⟩⟩⟩⟩
  · -- selecting
    have eph : ph = 1 := by rw [w1] at e1; exact (nI_eq (b := 1) (by omega) (by omega)).mp e1
    subst eph
    have f1 : g_I w 12 = 1 := ph0.symm.trans e1
    obtain ⟨l1, l2, l3, l4, l5, l6⟩ := wl (by omega)
    unfold w_X3_afterChunk w_X6_select
    rw [c3, pn1, c4, after_eq hC6 hK pn3]
    dsimp only
    rw [← sG_id (s_I z 20 2) 5]
    have hle : min (nx + C) K ≤ K := Nat.min_le_right _ _
    have hmin : nx + (min (nx + C) K - nx) = min (nx + C) K := by omega
    refine ⟨_, x_select_8 (z := s_I z 20 2) hle hK nx (fun f hf => ?_) (min (nx + C) K - nx) nx _ hmin (Nat.le_refl _) (fun i h1 h2 => by omega)⟩
    unfold w_M0_snapshot
    refine ⟨fun h => absurd h (by rw [f1]; decide), fun _ => ⟨fun _ => ⟨fun h => absurd f1 h, fun _ => ⟨rfl, ?_⟩⟩, fun h => absurd h (by rw [f1]; decide)⟩⟩
    rw [a2]
    refine ⟨n, o, bg, q, pl, nx, cz, ep, 2, lw, n, 0, ap, hC, hS, hL, hP, hH, ⟨⟨rfl, rfl, by omega⟩, fun _ => ⟨l1, l2, l3, l4, l5, l6⟩, fun _ => ⟨rfl, l4, Nat.le_refl _, fun k k1 k2 k3 => ?_⟩, fun h => by omega⟩, hKK⟩
    show f k = _
    rw [hf k k1 (by omega)]
    exact s4 k k3
  · -- the high
    have eph : ph = 2 := by rw [w1] at e2; exact (nI_eq (b := 2) (by omega) (by omega)).mp e2
    subst eph
    have f2 : g_I w 12 = 2 := ph0.symm.trans e2
    have n3 : ¬ g_I w 12 = 3 := by rw [f2]; decide
    have n0 : ¬ g_I w 12 = 0 := by rw [f2]; decide
    have n1 : ¬ g_I w 12 = 1 := by rw [f2]; decide
    obtain ⟨l1, l2, l3, l4, l5, l6⟩ := wl (by omega)
    obtain ⟨d1, d2, d3, d4⟩ := wc (by omega)
    unfold w_X3_closeChunk
    refine x_hasRoom 1 0 a1 a3 (by omega) b1 (by omega) (by omega) rfl rfl (fun hr => ⟨fun _ => ?_, fun h => absurd h (by decide)⟩) (fun hr => ⟨fun h => absurd rfl h, fun _ => ?_⟩)
    · refine x_write (n := n) a1 (by omega) ?_
      unfold w_X6_close w_M0_snapshot
      refine ⟨fun h => absurd h n3, fun _ => ⟨fun _ => ⟨fun _ => ?_, fun h => absurd h n1⟩, fun h => absurd h n0⟩⟩
      refine m_room 1 0 a2 a4 (by omega) b1 (by omega) (by omega) rfl rfl (fun _ => ⟨fun _ => ⟨fun _ => ?_, fun h => absurd h n0⟩, fun h => absurd h (by decide)⟩) (fun h => by omega)
      have hin : vp_in (nI n) 160 := vp_in_nI (by omega) (by omega)
      refine m_write (n := n) a2 (by omega) ⟨hin, hin, hin, rfl, ?_⟩
      rw [nI_clamp (show n < 2 ^ 31 by omega)]
      have q13 : g_I (ww w n 6 (-1) (-1)) 13 = nI lw := l3
      have q14 : g_I (ww w n 6 (-1) (-1)) 14 = nI cut := d1
      have q11 : g_I (ww w n 6 (-1) (-1)) 11 = nI nx := pn2
      rw [q13, q14, q11, pn1]
      have hX : SX z (zw z n 4 (-1) (nI nx) (-1)) := ⟨rfl, rfl, rfl, rfl, rfl, rfl, rfl, rfl, rfl, rfl, rfl, rfl, rfl, rfl, rfl, rfl, rfl, rfl, rfl, rfl, rfl, rfl, rfl, rfl, rfl, rfl, rfl, rfl⟩
      have hM : SM w (s_A (s_A (s_A (ww w n 6 (-1) (-1)) 5 n (nI lw)) 6 n (nI cut)) 7 n (nI nx)) := ⟨rfl, rfl, rfl, rfl, rfl, rfl, rfl, rfl, rfl, rfl, rfl, rfl, rfl, rfl, rfl, rfl, rfl, rfl, rfl, rfl, rfl, rfl, rfl, rfl, rfl, rfl⟩
      have hA : Ag n w (s_A (s_A (s_A (ww w n 6 (-1) (-1)) 5 n (nI lw)) 6 n (nI cut)) 7 n (nI nx)) := fun i hi => ⟨upd_lt hi, upd_lt hi, upd_lt hi, rfl, rfl, upd_lt hi, upd_lt hi, upd_lt hi⟩
      have k6 : g_A (s_A (s_A (s_A (ww w n 6 (-1) (-1)) 5 n (nI lw)) 6 n (nI cut)) 7 n (nI nx)) 0 n = 6 := pk_us
      have hS' : RS K (n + 1) o bg (zw z n 4 (-1) (nI nx) (-1)) (s_A (s_A (s_A (ww w n 6 (-1) (-1)) 5 n (nI lw)) 6 n (nI cut)) 7 n (nI nx)) := rs_same hS (by omega) rfl rfl rfl rfl rfl rfl rfl rfl rfl rfl rfl rfl hA (by rw [k6]; decide) (by rw [k6]; decide)
      have hL' : RL K (n + 1) bg (zw z n 4 (-1) (nI nx) (-1)) (s_A (s_A (s_A (ww w n 6 (-1) (-1)) 5 n (nI lw)) 6 n (nI cut)) 7 n (nI nx)) := rl_grow hL (Nat.le_refl _) hA (fun i hi => ⟨upd_lt hi, upd_lt hi, upd_lt hi, updL_lt hi⟩) ⟨pk_us.trans pk_us.symm, Or.inr (Or.inr (Or.inr (Or.inr ⟨pk_us, pk_us, pk_us.trans pk_us.symm, lw, cut, nx, l4, d3, l1, pk_us, pk_us, pk_us⟩)))⟩
      have hW' := gr_W hX hM hA (Nat.le_succ n) pp3 hW
      have hK' := gr_K hX hM hA (Nat.le_succ n) (by omega) hL hKK
      have hC' := gr_C hX hM hC
      have hP' := gr_P hX hM hA (Nat.le_succ n) hP
      have hH' := gr_H hX hM hA (Nat.le_succ n) hH
      obtain ⟨-, wl', wc', -⟩ := hW'
      exact ⟨n + 1, o, bg, q, pl, nx, cz, ep, 3, lw, cut, n, ap, hC', hS', hL', hP', hH', ⟨⟨rfl, rfl, by omega⟩, fun _ => wl' (by omega), fun _ => wc' (by omega), fun _ => ⟨rfl, rfl, by omega, pp3, pk_us, pk_us, pk_us, pk_us⟩⟩, hK'⟩
    · unfold w_M0_snapshot
      refine ⟨fun h => absurd h n3, fun _ => ⟨fun _ => ⟨fun _ => ?_, fun h => absurd h n1⟩, fun h => absurd h n0⟩⟩
      exact m_room 1 0 a2 a4 (by omega) b1 (by omega) (by omega) rfl rfl (fun h => by omega) (fun _ => ⟨fun h => absurd rfl h, fun _ => ⟨rfl, hJ⟩⟩)
  · have eph : ph = 3 := by
      rw [w1] at e0 e1 e2
      rcases (show ph = 0 ∨ ph = 1 ∨ ph = 2 ∨ ph = 3 by omega) with rfl | rfl | rfl | rfl
      · exact absurd rfl e0
      · exact absurd rfl e1
      · exact absurd rfl e2
      · rfl
    subst eph
    have f3 : g_I w 12 = 3 := w2
    unfold w_M0_snapshot
    exact ⟨fun _ => ⟨rfl, hJ⟩, fun h => absurd f3 h⟩
end SN
