/-! view -/
section VW
variable {K C T : Nat} {le : Int32} {t n o bg q pl nx cz ep ph lw cut hg ap : Nat} {z w : St}
theorem sh_iff (r : Int64) (g : Int32) : r >>> ((32 : Int32).toInt64 &&& 63) = g.toInt64 ↔ (r >>> ((32 : Int32).toInt64 &&& 63)).toInt32 = g := by
  have e : (32 : Int32).toInt64 &&& 63 = 32 := by decide
  rw [e]
  have h1 : (r >>> (32 : Int64)).toInt = r.toInt / 2 ^ 32 := by
    rw [← Int64.toInt_toBitVec, Int64.toBitVec_shiftRight]
    have e2 : ((32 : Int64).toBitVec.smod 64) = 32#64 := by decide
    rw [e2]
    show (r.toBitVec.sshiftRight 32).toInt = _
    rw [BitVec.toInt_sshiftRight, Int.shiftRight_eq_div_pow, Int64.toInt_toBitVec]
    rfl
  have h2 := r.toInt_lt
  have h4 := r.le_toInt
  have h3 : (r >>> (32 : Int64)).toInt32.toInt = (r >>> (32 : Int64)).toInt := by
    rw [Int64.toInt_toInt32]
    exact Int.bmod_eq_of_le (by omega) (by omega)
  constructor
  · intro h
    rw [← Int32.toInt_inj, h3, h, Int32.toInt_toInt64]
  · intro h
    rw [← Int64.toInt_inj, Int32.toInt_toInt64, ← h, h3]
theorem nI_l1 {c : Nat} (h : c < 1000) : (nI (c + 1)).toInt64 = (nI c).toInt64 + 1 := by
  rw [← Int64.toInt_inj, Int32.toInt_toInt64, Int64.toInt_add, Int32.toInt_toInt64, nI_toInt (by omega), nI_toInt (by omega)]
  have e : (1 : Int64).toInt = 1 := by decide
  rw [e, Int.bmod_eq_of_le (by omega) (by omega)]
  omega
def vsum (g b : Int32) (f : Nat → Int64) : Nat → Int64
  | 0 => 0
  | k + 1 => vsum g b f k + (if ¬ f k = -1 ∧ (f k >>> ((32 : Int32).toInt64 &&& 63)).toInt32 = g then (if b = 0 then 1 else ((f k).toInt32 : Int32).toInt64) else 0)
theorem x_isOf {Q : Int32 → St → Prop} {k : Nat} {g : Int32} (hk : k < K) (hK : K ≤ 12) (hy : (¬ g_L z 3 k = -1 ∧ (g_L z 3 k >>> ((32 : Int32).toInt64 &&& 63)).toInt32 = g) → Q 1 z) (hn : ¬ (¬ g_L z 3 k = -1 ∧ (g_L z 3 k >>> ((32 : Int32).toInt64 &&& 63)).toInt32 = g) → Q 0 z) : w_X4_isOfGroup K (nI k) g z Q := by
  unfold w_X4_isOfGroup w_X0_groupOf
  rw [nI_clamp (show k < 2 ^ 31 by omega), lc_zero]
  have hin : vp_in (nI k) K := vp_in_nI hk (by omega)
  exact ⟨hin, fun h => hn (fun h2 => h2.1 h), fun h => ⟨hin, fun h2 => hn (fun h3 => h2 h3.2), fun h2 => hy ⟨h, h2⟩⟩⟩
theorem x_count_4 {Q : Int32 → St → Prop} {g : Int32} (hK : K ≤ 12) (hQ : ∀ c, (nI c).toInt64 = vsum g 0 (g_L z 3) K → Q (nI c) z) : ∀ (d k c : Nat), k + d = K → c ≤ k → (nI c).toInt64 = vsum g 0 (g_L z 3) k → w_X4_countOf_4 K Q (d + 1) g (nI c) (nI k) z
  | 0, k, c, hd, hc, hv => by
    have e : k = K := by omega
    subst e
    unfold w_X4_countOf_4
    exact ⟨fun _ => hQ c hv, fun h => absurd (nI_le (Nat.le_refl _) (by omega)) h⟩
  | d + 1, k, c, hd, hc, hv => by
    unfold w_X4_countOf_4
    refine ⟨fun h => absurd h (nI_ge (by omega) (by omega)), fun _ => x_isOf (by omega) hK (fun hy => ⟨fun h => absurd h (by decide), fun _ => ?_⟩) (fun hn => ⟨fun _ => ?_, fun h => absurd rfl h⟩)⟩
    · rw [nI_1, nI_1]
      refine x_count_4 hK hQ d (k + 1) (c + 1) (by omega) (by omega) ?_
      rw [nI_l1 (by omega), hv]
      unfold vsum
      rw [if_pos hy, if_pos rfl]
      cases k <;> rfl
    · rw [nI_1]
      refine x_count_4 hK hQ d (k + 1) c (by omega) (by omega) ?_
      rw [hv]
      show _ = vsum g 0 (g_L z 3) k + _
      rw [if_neg hn, Int64.add_zero]
theorem x_sum_5 {Q : Int64 → St → Prop} {g b : Int32} (hb : ¬ b = 0) (hK : K ≤ 12) (hQ : Q (vsum g b (g_L z 3) K) z) : ∀ (d k : Nat), k + d = K → w_X4_sumOf_5 K Q (d + 1) g (vsum g b (g_L z 3) k) (nI k) z
  | 0, k, hd => by
    have e : k = K := by omega
    subst e
    unfold w_X4_sumOf_5
    exact ⟨fun _ => hQ, fun h => absurd (nI_le (Nat.le_refl _) (by omega)) h⟩
  | d + 1, k, hd => by
    have ih := x_sum_5 hb hK hQ d (k + 1) (by omega)
    unfold w_X4_sumOf_5
    refine ⟨fun h => absurd h (nI_ge (by omega) (by omega)), fun _ => x_isOf (by omega) hK (fun hy => ⟨fun h => absurd h (by decide), fun _ => ⟨vp_in_nI (by omega) (by omega), ?_⟩⟩) (fun hn => ⟨fun _ => ?_, fun h => absurd rfl h⟩)⟩
    · unfold w_X0_amountOf
      rw [nI_1, nI_clamp (show k < 2 ^ 31 by omega)]
      have e : vsum g b (g_L z 3) (k + 1) = vsum g b (g_L z 3) k + ((g_L z 3 k).toInt32 : Int32).toInt64 := by
        show vsum g b (g_L z 3) k + _ = _
        rw [if_pos hy, if_neg hb]
      rw [e] at ih
      exact ih
    · rw [nI_1]
      have e : vsum g b (g_L z 3) (k + 1) = vsum g b (g_L z 3) k := by
        show vsum g b (g_L z 3) k + _ = _
        rw [if_neg hn, Int64.add_zero]
      rw [e] at ih
      exact ih
theorem m_view_5 {Q : Int64 → St → Prop} {j : Nat} {b : Int32} {f : Nat → Int64} (h0 : g_I w 0 = nI K) (hj : j < 4) (hK : K ≤ 12) (hf : ∀ k, k < K → (f k = -1 ∨ ¬ f k < 0) ∧ ∀ Q : Int64 → St → Prop, Q (f k) w → w_M0_stored K (nI k) w Q) (hQ : Q (vsum (nI j) b f K) w) : ∀ (d k : Nat), k + d = K → w_M0_view_5 K Q (d + 1) (nI j) b (vsum (nI j) b f k) (nI k) w
  | 0, k, hd => by
    have e : k = K := by omega
    subst e
    unfold w_M0_view_5
    rw [h0]
    exact ⟨fun _ => hQ, fun h => absurd (nI_le (Nat.le_refl _) (by omega)) h⟩
  | d + 1, k, hd => by
    have ih := m_view_5 (b := b) h0 hj hK hf hQ d (k + 1) (by omega)
    obtain ⟨hok, hst⟩ := hf k (by omega)
    have no : ¬ (¬ f k = -1 ∧ (f k >>> ((32 : Int32).toInt64 &&& 63)).toInt32 = nI j) → w_M0_view_5 K Q (d + 1) (nI j) b (vsum (nI j) b f k + 0) (nI k + 1) w := by
      intro hn
      have e : vsum (nI j) b f (k + 1) = vsum (nI j) b f k + 0 := by
        show vsum (nI j) b f k + _ = _
        rw [if_neg hn]
      rw [e] at ih
      rw [nI_1]
      exact ih
    unfold w_M0_view_5
    rw [h0]
    refine ⟨fun h => absurd h (nI_ge (by omega) (by omega)), fun _ => ⟨fun h => absurd h (nI_pos (by omega)), fun _ => ⟨fun h => absurd h (nI_nlt (a := 3) (by omega) (by omega)), fun _ => hst _ ?_⟩⟩⟩
    rw [lc_neg, lc_zero, sh_iff]
    refine ⟨fun h => no (fun h2 => ?_), fun h => ⟨fun h2 => no (fun h3 => h2 h3.2), fun h2 => ?_⟩⟩
    · rcases hok with hok | hok
      · exact h2.1 hok
      · exact hok h
    · have hy : ¬ f k = -1 ∧ (f k >>> ((32 : Int32).toInt64 &&& 63)).toInt32 = nI j := ⟨fun h3 => h (by rw [h3]; decide), h2⟩
      rw [nI_1]
      refine ⟨fun hb => ?_, fun hb => ?_⟩
      · have e : vsum (nI j) b f (k + 1) = vsum (nI j) b f k + 1 := by
          show vsum (nI j) b f k + _ = _
          rw [if_pos hy, if_pos hb]
        rw [e] at ih
        exact ih
      · have e : vsum (nI j) b f (k + 1) = vsum (nI j) b f k + ((f k).toInt32 : Int32).toInt64 := by
          show vsum (nI j) b f k + _ = _
          rw [if_pos hy, if_neg hb]
        rw [e] at ih
        exact ih
theorem sd_ok (hL : RL K n bg z w) (hK : K ≤ 12) (hn : n ≤ 160) {k : Nat} (hk : k < K) {C : Int32} : ∀ ap, (∀ j, j < ap → ∃ d, g_A w 17 j = nI d ∧ okD n w d) → sdw w C le (nI k) ap = -1 ∨ ¬ sdw w C le (nI k) ap < 0
  | 0, _ => Or.inl rfl
  | ap + 1, hd => by
    have ih := sd_ok hL hK hn hk (C := C) ap (fun j hj => hd j (by omega))
    obtain ⟨d, e1, d1, d2⟩ := hd ap (by omega)
    have e : sdw w C le (nI k) (ap + 1) = (match evw w C le (g_A w 17 ap).toNatClampNeg (nI k) with
      | some r => r
      | none => sdw w C le (nI k) ap) := rfl
    rw [e, e1, nI_clamp (show d < 2 ^ 31 by omega)]
    cases hev : evw w C le d (nI k) with
    | none => exact ih
    | some r =>
      show r = -1 ∨ ¬ r < 0
      unfold evw ev at hev
      rcases d2 with h3 | ⟨h6, lo, cu, l1, l2, l3, l4⟩
      · rw [if_pos h3] at hev
        cases hl : lb (g_A w 0) (g_A w 1) (g_A w 2) (g_A w 1 d) (nI k) d with
        | none => rw [hl] at hev; cases hev
        | some i =>
          rw [hl] at hev
          injection hev with hev
          rw [← hev]
          exact kp_ok (md_ok hL (p := d) (by omega) hl)
      · rw [if_neg (by rw [h6]; decide), l4, nI_clamp (show cu < 2 ^ 31 by omega)] at hev
        split at hev
        · cases hev
        · split at hev
          · cases hev
          · split at hev
            · cases hev
            · split at hev
              · cases hev
              · injection hev with hev
                rw [← hev]
                exact kp_ok (tb_ok hL hK hk cu (by omega))
theorem o_view (hK : K ≤ 12) (x1 x2 : Int32) (h : J K C T le t z w) : w_X0_view K x1 x2 z (fun r u => w_M0_view K x1 x2 w (fun r' u' => r = r' ∧ J K C T le (t + 1) u u')) := by
  have hJ := J_up h
  obtain ⟨n, o, bg, q, pl, nx, cz, ep, ph, lw, cut, hg, ap, hC, hS, hL, hP, hH, hW, hKK⟩ := h
  have hn : n ≤ 160 := by have := hS.2.1.2.1; omega
  obtain ⟨c1, c2, c3, c4, c5, c6, c7, c8, c9, c10⟩ := hC
  obtain ⟨⟨k1, k2, k3⟩, kd, kr, kpp, -⟩ := hKK
  have hst : ∀ k, k < K → (g_L z 3 k = -1 ∨ ¬ g_L z 3 k < 0) ∧ ∀ Q : Int64 → St → Prop, Q (g_L z 3 k) w → w_M0_stored K (nI k) w Q := by
    intro k hk
    refine ⟨?_, fun Q hQ => ?_⟩
    · rw [kr k hk]
      exact sd_ok hL hK hn hk ap (fun j hj => by
        obtain ⟨d, d1, -, d3, d4⟩ := kd j hj
        exact ⟨d, d1, rl_ok hL d3 d4⟩)
    · unfold w_M0_stored
      refine m_isKey c2 hK (fun k' hk' e' => ⟨fun _ => ?_, fun h => absurd h (by decide)⟩) (fun hno => absurd rfl (hno k hk))
      rw [k1, i_m1]
      refine ⟨_, m_stored_19 ap k2 (fun j hj => ?_) ?_⟩
      · obtain ⟨d, d1, -, d3, d4⟩ := kd j hj
        obtain ⟨r1, r2⟩ := rl_ok hL d3 d4
        refine ⟨d, d1, by omega, ?_⟩
        rcases r2 with r2 | ⟨r2, lo, cu, r3, r4, r5, r6⟩
        · exact Or.inl r2
        · exact Or.inr ⟨by rw [r2]; decide, lo, cu, r3, r4, r5, r6⟩
      · rw [c5, c10, ← kr k hk]
        exact hQ
  unfold w_X0_view
  refine x_isGroup (fun g hg4 eg => ⟨fun _ => ⟨fun h0 => ?_, fun h0 => ?_⟩, fun h => absurd h (by decide)⟩) (fun hbad => ⟨fun h => absurd rfl h, fun _ => ?_⟩)
  · subst eg
    subst h0
    unfold w_X4_countOf
    refine ⟨_, x_count_4 hK (fun c hc => ?_) K 0 0 (by omega) (Nat.le_refl _) rfl⟩
    unfold w_M0_view
    rw [hc]
    exact ⟨_, m_view_5 (Q := fun r' u' => vsum (nI g) 0 (g_L z 3) K = r' ∧ J K C T le (t + 1) z u') c2 hg4 hK hst ⟨rfl, hJ⟩ K 0 (by omega)⟩
  · subst eg
    unfold w_X4_sumOf
    refine ⟨_, x_sum_5 (b := x2) h0 hK ?_ K 0 (by omega)⟩
    unfold w_M0_view
    exact ⟨_, m_view_5 (Q := fun r' u' => vsum (nI g) x2 (g_L z 3) K = r' ∧ J K C T le (t + 1) z u') c2 hg4 hK hst ⟨rfl, hJ⟩ K 0 (by omega)⟩
  · unfold w_M0_view
    refine ⟨1, ?_⟩
    unfold w_M0_view_5
    refine ⟨fun _ => ⟨rfl, hJ⟩, fun _ => ⟨fun _ => ⟨rfl, hJ⟩, fun h0 => ⟨fun _ => ⟨rfl, hJ⟩, fun h3 => ?_⟩⟩⟩
    rcases hbad with hbad | hbad
    · exact absurd hbad h0
    · exfalso
      have e4 : (nI 4).toInt = 4 := by decide
      have e3 : (3 : Int32).toInt = 3 := by decide
      rw [Int32.lt_iff_toInt_lt] at h3
      rw [Int32.le_iff_toInt_le] at hbad
      omega
end VW
