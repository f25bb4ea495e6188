/-! put, remove, row -/
section OP
variable {K C T : Nat} {le : Int32} {t : Nat} {z w : St}
def zw (z : St) (n : Nat) (a b c : Int32) (d : Int64) : St := s_I (s_L (s_A (s_A (s_A z 6 n a) 7 n b) 8 n c) 4 n d) 19 (nI (n + 1))
def ww (w : St) (n : Nat) (a b c : Int32) : St := s_I (s_A (s_A (s_A w 0 n a) 1 n b) 2 n c) 4 (nI (n + 1))
theorem x_write {Q : Int32 → St → Prop} {n : Nat} {a b c : Int32} {d : Int64} (h : g_I z 19 = nI n) (hn : n < 160) (hQ : Q (nI n) (zw z n a b c d)) : w_X5_write K a b c d z Q := by
  unfold w_X5_write
  rw [h, nI_clamp (by omega), nI_1, i_pn]
  have hin : vp_in (nI n) 160 := vp_in_nI hn (by omega)
  exact ⟨fun _ => ⟨hin, hin, hin, hin, hQ⟩, fun h => absurd (nI_lt (b := 160) hn (by omega)) h⟩
theorem m_write {Q : Int32 → St → Prop} {n : Nat} {a b c : Int32} (h : g_I w 4 = nI n) (hn : n < 160) (hQ : Q (nI n) (ww w n a b c)) : w_M0_write K a b c w Q := by
  unfold w_M0_write
  rw [h, nI_clamp (by omega), nI_1, i_pn]
  have hin : vp_in (nI n) 160 := vp_in_nI hn (by omega)
  exact ⟨hin, hin, hin, hQ⟩
theorem ag_ww {w : St} {n : Nat} {a b c : Int32} : Ag n w (ww w n a b c) := fun i hi => ⟨upd_lt hi, upd_lt hi, upd_lt hi, rfl, rfl, rfl, rfl, rfl⟩
def seen (w : St) (n : Nat) (x : Int32) (k : Nat) : Int64 := match lbw w x (nI k) n with
  | some i => mdw w i
  | none => tbw w (nI k) n
theorem x_seenBy {Q : Int64 → St → Prop} {n o bg j k : Nat} {x : Int32} (hS : RS K n o bg z w) (hL : RL K n bg z w) (hK : K ≤ 12) (hk : k < K) (hj : j < o) (hx : g_A w 8 j = x) (hQ : Q (seen w n x k) z) : w_X1_seenBy K x (nI k) z Q := by
  obtain ⟨⟨a1, a2, a3, a4, a5, a6⟩, ⟨b1, b2, b3⟩, s1, s2, s3, s4, s5, s6⟩ := hS
  have hin : vp_in (nI k) K := vp_in_nI hk (by omega)
  unfold w_X1_seenBy
  rw [nI_clamp (by omega), (s3 k hk).1, s4 k hk, lc_zero]
  unfold seen at hQ
  refine ⟨hin, fun h => ⟨hin, ?_⟩, fun h => ⟨hin, fun h2 => ⟨hin, ?_⟩, fun h2 => ⟨hin, ?_⟩⟩⟩
  · have hn : lbw w x (nI k) n = none := by
      cases hl : lbw w x (nI k) n with
      | none => rfl
      | some i => exact absurd (s6 j k hj hk (by rw [hx, hl]; exact fun h => by cases h)) (by rw [hx]; exact h)
    rw [hn] at hQ; exact hQ
  · rw [s5 k hk, h] at h2
    cases hl : lbw w x (nI k) n with
    | none => rw [hl] at hQ; exact hQ
    | some i =>
      rw [hl] at h2
      exact absurd h2 (ne2 (md_ok hL (Nat.le_refl _) hl))
  · rw [s5 k hk, h] at h2 ⊢
    cases hl : lbw w x (nI k) n with
    | none => rw [hl] at h2; exact absurd rfl h2
    | some i => rw [hl] at hQ; exact hQ
theorem seen_ok {n o bg k : Nat} {x : Int32} (hL : RL K n bg z w) (hK : K ≤ 12) (hk : k < K) : seen w n x k = -1 ∨ ¬ seen w n x k < 0 := by
  unfold seen
  cases hl : lbw w x (nI k) n with
  | none => exact tb_ok hL hK hk n (Nat.le_refl _)
  | some i => exact md_ok hL (Nat.le_refl _) hl
/-- the reference's row, of an open transaction -/
theorem m_row {Q : Int64 → St → Prop} {n o bg j k : Nat} {x : Int32} (hC : RC K C T le z w) (hS : RS K n o bg z w) (hK : K ≤ 12) (hk : k < K) (hj : j < o) (hx : g_A w 8 j = x) (hQ : Q (seen w n x k) w) : w_M0_row K x (nI k) w Q := by
  obtain ⟨⟨a1, a2, a3, a4, a5, a6⟩, ⟨b1, b2, b3⟩, s1, s2, s3, s4, s5, s6⟩ := hS
  obtain ⟨-, m, m1, m2⟩ := s1 j hj
  have hxm : x = nI m := hx.symm.trans m2
  unfold w_M0_row
  refine m_isKey hC.2.1 hK (fun k' hk' e' => ⟨fun h => absurd h (by decide), fun _ => ⟨fun h => absurd h (by rw [hxm]; exact i_ne_m1 (by omega)), fun _ => ?_⟩⟩) (fun hn => absurd rfl (hn k hk))
  refine m_isOpen a4 b1 (fun _ => ⟨fun _ => ⟨fun _ => ?_, fun h => absurd (by rw [hxm]; exact nI_pos' (by omega)) h⟩, fun h => absurd h (by decide)⟩) (fun hn => absurd hx (hn j hj))
  refine m_lastBy a2 (by omega) ?_
  unfold seen at hQ
  have hlt : ∀ i, lbw w x (nI k) n = some i → i < n := fun i h => (lb_lt h).1
  generalize lbw w x (nI k) n = ol at hQ hlt ⊢
  cases ol with
  | none => exact ⟨fun h => absurd h (by show ¬ (0 : Int32) ≤ -1; decide), fun _ => m_table a2 (by omega) hQ⟩
  | some i => exact ⟨fun _ => m_made rfl (by have := hlt i rfl; omega) hQ, fun h => absurd (nI_pos' (by have := hlt i rfl; omega)) h⟩
theorem o_row (hK : K ≤ 12) (x1 x2 : Int32) (h : J K C T le t z w) : w_X0_row K x1 x2 z (fun r u => w_M0_row K x1 x2 w (fun r' u' => r = r' ∧ J K C T le (t + 1) u u')) := by
  have hJ := J_up h
  obtain ⟨n, o, bg, q, pl, nx, cz, ep, ph, lw, cut, hg, ap, hC, hS, hL, hP, hH, hW, hKK⟩ := h
  have hS0 := hS
  obtain ⟨⟨a1, a2, a3, a4, a5, a6⟩, ⟨b1, b2, b3⟩, s1, s2, s3, s4, s5, s6⟩ := hS0
  unfold w_X0_row
  refine x_isKey hC.1 hK (fun k hk e => ⟨fun _ => ⟨fun h1 => ?_, fun h1 => ?_⟩, fun h => absurd h (by decide)⟩) (fun hn => ⟨fun h => absurd rfl h, fun _ => ?_⟩)
  · refine x_isOpen a3 b1 (fun ho => ⟨fun h => absurd h (by decide), fun _ => ?_⟩) (fun ho => ⟨fun _ => ?_, fun h => absurd rfl h⟩)
    · obtain ⟨j, j1, j2⟩ := (opn hS).mp ho
      subst e
      exact x_seenBy hS hL hK hk j1 j2 (m_row hC hS hK hk j1 j2 ⟨rfl, hJ⟩)
    · unfold w_M0_row
      refine m_isKey hC.2.1 hK (fun k' hk' e' => ⟨fun h => absurd h (by decide), fun _ => ⟨fun h => absurd h h1, fun _ => ?_⟩⟩) (fun _ => ⟨fun _ => ⟨rfl, hJ⟩, fun h => absurd rfl h⟩)
      exact m_isOpen a4 b1 (fun ho2 => by obtain ⟨j, j1, j2⟩ := (opn hS).mpr ho2; exact absurd j2 (ho j j1)) (fun _ => ⟨fun h => absurd rfl h, fun _ => ⟨rfl, hJ⟩⟩)
  · subst e; subst h1
    unfold w_X1_inTable
    rw [nI_clamp (by omega)]
    refine ⟨vp_in_nI hk (by omega), ?_⟩
    unfold w_M0_row
    refine m_isKey hC.2.1 hK (fun k' hk' e' => ⟨fun h => absurd h (by decide), fun _ => ⟨fun _ => ⟨fun h => absurd h (by decide), fun _ => ?_⟩, fun h => absurd rfl h⟩⟩) (fun hn => absurd rfl (hn k hk))
    exact m_table a2 (by omega) ⟨s4 k hk, hJ⟩
  · unfold w_M0_row
    exact m_isKey hC.2.1 hK (fun k' hk' e' => absurd e' (hn k' hk')) (fun _ => ⟨fun _ => ⟨rfl, hJ⟩, fun h => absurd rfl h⟩)
theorem m_ref_bad {Q : Int32 → St → Prop} {n o bg : Nat} {x1 x2 : Int32} {B : St → Prop} (hC : RC K C T le z w) (hS : RS K n o bg z w) (hK : K ≤ 12) (hb : ¬ ((∃ j, j < o ∧ g_A z 1 j = x1) ∧ ∃ k, k < K ∧ x2 = nI k)) (hQ : Q (-2) w) : w_M0_isOpen K x1 w (fun r1 u2 => ((r1 = 0 → Q (-2) u2) ∧ (¬ r1 = 0 → w_M0_isKey K x2 u2 (fun r3 u4 => ((r3 = 0 → Q (-2) u4) ∧ (¬ r3 = 0 → B u4)))))) := by
  refine m_isOpen hS.1.2.2.2.1 hS.2.1.1 (fun ho => ⟨fun h => absurd h (by decide), fun _ => ?_⟩) (fun _ => ⟨fun _ => hQ, fun h => absurd rfl h⟩)
  exact m_isKey hC.2.1 hK (fun k hk e => absurd ⟨(opn hS).mpr ho, k, hk, e⟩ hb) (fun _ => ⟨fun _ => hQ, fun h => absurd rfl h⟩)
theorem m_ref_bad' {Q : Int32 → St → Prop} {n o bg : Nat} {x1 x2 : Int32} {B : St → Prop} (hC : RC K C T le z w) (hS : RS K n o bg z w) (hK : K ≤ 12) (hb : ¬ ((∃ j, j < o ∧ g_A z 1 j = x1) ∧ ∃ k, k < K ∧ x2 = nI k)) (hQ : Q (-2) w) : w_M0_isOpen K x1 w (fun r1 u2 => ((r1 = 0 → Q (-2) u2) ∧ (¬ r1 = 0 → w_M0_isKey K x2 u2 (fun r3 u4 => ((¬ r3 = 0 → B u4) ∧ (r3 = 0 → Q (-2) u4)))))) := by
  refine m_isOpen hS.1.2.2.2.1 hS.2.1.1 (fun ho => ⟨fun h => absurd h (by decide), fun _ => ?_⟩) (fun _ => ⟨fun _ => hQ, fun h => absurd rfl h⟩)
  exact m_isKey hC.2.1 hK (fun k hk e => absurd ⟨(opn hS).mpr ho, k, hk, e⟩ hb) (fun _ => ⟨fun h => absurd rfl h, fun _ => hQ⟩)
theorem x_isGroup {Q : Int32 → St → Prop} {x : Int32} (hy : ∀ g, g < 4 → x = nI g → Q 1 z) (hn : (x < 0 ∨ nI 4 ≤ x) → Q 0 z) : w_X0_isGroup K x z Q := by
  unfold w_X0_isGroup
  rcases pk_ix x (n := 4) (by omega) with h | h | ⟨j, hj, rfl⟩
  · exact ⟨fun _ => hn (Or.inl h), fun h2 => absurd h h2⟩
  · exact ⟨fun _ => hn (Or.inr h), fun _ => ⟨fun _ => hn (Or.inr h), fun h2 => absurd h h2⟩⟩
  · exact ⟨fun h => absurd h (nI_pos (by omega)), fun _ => ⟨fun h => absurd h (nI_ge (b := 4) hj (by omega)), fun _ => hy j hj rfl⟩⟩
theorem o_put (hK : K ≤ 12) (x1 x2 x3 x4 : Int32) (h : J K C T le t z w) : w_X0_put K x1 x2 x3 x4 z (fun r u => w_M0_put K x1 x2 x3 x4 w (fun r' u' => r = r' ∧ J K C T le (t + 1) u u')) := by
  have hJ := J_up h
  obtain ⟨n, o, bg, q, pl, nx, cz, ep, ph, lw, cut, hg, ap, hC, hS, hL, hP, hH, hW, hKK⟩ := hJ
  have hJ := J_up h
  have hS0 := hS
  obtain ⟨⟨a1, a2, a3, a4, a5, a6⟩, ⟨b1, b2, b3⟩, s1, s2, s3, s4, s5, s6⟩ := hS0
  unfold w_X0_put
  refine x_isGroup (fun g hg4 eg => ⟨fun _ => ?_, fun h => absurd h (by decide)⟩) (fun hbad => ⟨fun h => absurd rfl h, fun _ => ?_⟩)
  · have c1 : ¬ x3 < 0 := by rw [eg]; exact nI_pos (by omega)
    have c2 : x3 ≤ 3 := by rw [eg]; exact nI_le (b := 3) (by omega) (by omega)
    refine x_refusal hC.1 hK a3 b1 (fun hb => ⟨fun h => absurd h (by decide), fun _ => ?_⟩) (fun k hk e ho hl1 hl2 => ⟨fun h => absurd h (by decide), fun _ => ?_⟩) (fun k hk e ho hl => ⟨fun _ => ?_, fun h => absurd rfl h⟩)
    · unfold w_M0_put
      exact m_ref_bad (Q := fun r' u' => (-2 : Int32) = r' ∧ J K C T le (t + 1) z u') hC hS hK hb ⟨rfl, hJ⟩
    · rw [(s3 k hk).1] at hl1 hl2
      unfold w_M0_put
      refine m_isOpen a4 b1 (fun _ => ⟨fun h => absurd h (by decide), fun _ => ?_⟩) (fun hn => by obtain ⟨j, j1, j2⟩ := (opn hS).mp ho; exact absurd j2 (hn j j1))
      refine m_isKey hC.2.1 hK (fun k' hk' e' => ⟨fun h => absurd h (by decide), fun _ => ⟨fun h => absurd h c1, fun _ => ⟨fun _ => ?_, fun h => absurd c2 h⟩⟩⟩) (fun hn => absurd e (hn k hk))
      exact m_lockedFor (k := k) (by omega) e (lkv hS hk) (fun h => by rcases h with h | h; exact absurd h hl1; exact absurd h hl2) (fun _ _ => ⟨fun h => absurd h (by decide), fun _ => ⟨rfl, hJ⟩⟩)
    · rw [(s3 k hk).1] at hl
      obtain ⟨j, j1, j2⟩ := (opn hS).mp ho
      subst e
      unfold w_X0_rowOf
      show w_X1_change K x1 (nI k) (rw_ x3 x4) z _
      unfold w_X1_change
      refine x_hasRoom 1 0 a1 a3 (by omega) b1 (by omega) (by omega) rfl rfl (fun hr => ⟨fun _ => ?_, fun h => absurd h (by decide)⟩) (fun hr => ⟨fun h => absurd rfl h, fun _ => ?_⟩)
      · unfold w_X1_takeLock
        rw [nI_clamp (by omega)]
        refine ⟨vp_in_nI hk (by omega), vp_in_nI hk (by omega), x_write (n := n) a1 (by omega) ?_⟩
        unfold w_M0_put
        refine m_isOpen a4 b1 (fun _ => ⟨fun h => absurd h (by decide), fun _ => ?_⟩) (fun hn => absurd j2 (hn j j1))
        refine m_isKey hC.2.1 hK (fun k' hk' e' => ⟨fun h => absurd h (by decide), fun _ => ⟨fun h => absurd h c1, fun _ => ⟨fun _ => ?_, fun h => absurd c2 h⟩⟩⟩) (fun hn => absurd rfl (hn k hk))
        refine m_lockedFor (k := k) (by omega) rfl (lkv hS hk) (fun _ => ⟨fun _ => ?_, fun h => absurd rfl h⟩) (fun h1 h2 => by rcases hl with h | h; exact absurd h h1; exact absurd h h2)
        refine m_room 1 0 a2 a4 (by omega) b1 (by omega) (by omega) rfl rfl (fun _ => ⟨fun _ => ?_, fun h => absurd h (by decide)⟩) (fun h => by omega)
        refine m_write (n := n) a2 (by omega) ⟨vp_in_nI (by omega) (by omega), vp_in_nI (by omega) (by omega), vp_in_nI (by omega) (by omega), rfl, ?_⟩
        rw [nI_clamp (show n < 2 ^ 31 by omega), nI_clamp (show k < 2 ^ 31 by omega)]
        have hA : Ag n w (s_A (s_A (s_A (ww w n 1 x1 (nI k)) 3 n x3) 4 n x4) 9 k x1) := fun i hi => ⟨upd_lt hi, upd_lt hi, upd_lt hi, upd_lt hi, upd_lt hi, rfl, rfl, rfl⟩
        have em : mdw (s_A (s_A (s_A (ww w n 1 x1 (nI k)) 3 n x3) 4 n x4) 9 k x1) n = rw_ x3 x4 := by
          show (if upd (g_A w 0) n 1 n = 1 then rw_ (upd (g_A w 3) n x3 n) (upd (g_A w 4) n x4 n) else -1) = _
          rw [pk_us, pk_us, pk_us, if_pos rfl]
        have hS' := rs_change (z' := zw (s_L (s_A z 0 k x1) 1 k (rw_ x3 x4)) n 0 x1 (nI k) (rw_ x3 x4)) (w' := s_A (s_A (s_A (ww w n 1 x1 (nI k)) 3 n x3) 4 n x4) 9 k x1) (row := rw_ x3 x4) hS hL j1 j2 hK hk hl (by omega) rfl rfl rfl rfl rfl rfl rfl rfl rfl rfl rfl rfl hA (Or.inl pk_us) pk_us pk_us em
        refine J_grow (z := z) (w := w) ⟨rfl, rfl, rfl, rfl, rfl, rfl, rfl, rfl, rfl, rfl, rfl, rfl, rfl, rfl, rfl, rfl, rfl, rfl, rfl, rfl, rfl, rfl, rfl, rfl, rfl, rfl, rfl, rfl⟩ ⟨rfl, rfl, rfl, rfl, rfl, rfl, rfl, rfl, rfl, rfl, rfl, rfl, rfl, rfl, rfl, rfl, rfl, rfl, rfl, rfl, rfl, rfl, rfl, rfl, rfl, rfl⟩ hA (by omega) (by omega) hL hC hP hH hW hKK hS' (rl_grow hL (Nat.le_refl _) hA (fun i hi => ⟨upd_lt hi, upd_lt hi, upd_lt hi, updL_lt hi⟩) ⟨?_, Or.inl ⟨pk_us, ?_, ⟨k, hk, pk_us⟩, ?_, Or.inl ⟨pk_us, ?_, g, hg4, ?_⟩⟩⟩)
        · exact pk_us.trans pk_us.symm
        · exact pk_us.trans pk_us.symm
        · obtain ⟨-, m, m1, m2⟩ := s1 j j1
          exact ⟨m, m1, pk_us.trans (j2.symm.trans m2)⟩
        · show vp_updL (g_L z 4) n (rw_ x3 x4) n = rw_ (upd (g_A w 3) n x3 n) (upd (g_A w 4) n x4 n)
          rw [pk_uLs, pk_us, pk_us]
        · exact pk_us.trans eg
      · unfold w_M0_put
        refine m_isOpen a4 b1 (fun _ => ⟨fun h => absurd h (by decide), fun _ => ?_⟩) (fun hn => absurd j2 (hn j j1))
        refine m_isKey hC.2.1 hK (fun k' hk' e' => ⟨fun h => absurd h (by decide), fun _ => ⟨fun h => absurd h c1, fun _ => ⟨fun _ => ?_, fun h => absurd c2 h⟩⟩⟩) (fun hn => absurd rfl (hn k hk))
        refine m_lockedFor (k := k) (by omega) rfl (lkv hS hk) (fun _ => ⟨fun _ => ?_, fun h => absurd rfl h⟩) (fun h1 h2 => by rcases hl with h | h; exact absurd h h1; exact absurd h h2)
        exact m_room 1 0 a2 a4 (by omega) b1 (by omega) (by omega) rfl rfl (fun h => by omega) (fun _ => ⟨fun h => absurd rfl h, fun _ => ⟨rfl, hJ⟩⟩)
  · unfold w_M0_put
    refine m_isOpen a4 b1 (fun _ => ⟨fun h => absurd h (by decide), fun _ => ?_⟩) (fun _ => ⟨fun _ => ⟨rfl, hJ⟩, fun h => absurd rfl h⟩)
    refine m_isKey hC.2.1 hK (fun k' hk' e' => ⟨fun h => absurd h (by decide), fun _ => ⟨fun _ => ⟨rfl, hJ⟩, fun h0 => ⟨fun h3 => ?_, fun _ => ⟨rfl, hJ⟩⟩⟩⟩) (fun _ => ⟨fun _ => ⟨rfl, hJ⟩, fun h => absurd rfl h⟩)
    exfalso
    rcases hbad with hb | hb
    · exact h0 hb
    · rw [Int32.le_iff_toInt_le] at hb h3
      have e3 : (3 : Int32).toInt = 3 := by decide
      have e4 : (nI 4).toInt = 4 := by decide
      omega
theorem o_remove (hK : K ≤ 12) (x1 x2 : Int32) (h : J K C T le t z w) : w_X0_remove K x1 x2 z (fun r u => w_M0_remove K x1 x2 w (fun r' u' => r = r' ∧ J K C T le (t + 1) u u')) := by
  have hJ := J_up h
  obtain ⟨n, o, bg, q, pl, nx, cz, ep, ph, lw, cut, hg, ap, hC, hS, hL, hP, hH, hW, hKK⟩ := hJ
  have hJ := J_up h
  have hS0 := hS
  obtain ⟨⟨a1, a2, a3, a4, a5, a6⟩, ⟨b1, b2, b3⟩, s1, s2, s3, s4, s5, s6⟩ := hS0
  unfold w_X0_remove
  refine x_refusal hC.1 hK a3 b1 (fun hb => ⟨fun h => absurd h (by decide), fun _ => ?_⟩) (fun k hk e ho hl1 hl2 => ⟨fun h => absurd h (by decide), fun _ => ?_⟩) (fun k hk e ho hl => ⟨fun _ => ?_, fun h => absurd rfl h⟩)
  · unfold w_M0_remove
    exact m_ref_bad' (Q := fun r' u' => (-2 : Int32) = r' ∧ J K C T le (t + 1) z u') hC hS hK hb ⟨rfl, hJ⟩
  · rw [(s3 k hk).1] at hl1 hl2
    unfold w_M0_remove
    refine m_isOpen a4 b1 (fun _ => ⟨fun h => absurd h (by decide), fun _ => ?_⟩) (fun hn => by obtain ⟨j, j1, j2⟩ := (opn hS).mp ho; exact absurd j2 (hn j j1))
    refine m_isKey hC.2.1 hK (fun k' hk' e' => ⟨fun _ => ?_, fun h => absurd h (by decide)⟩) (fun hn => absurd e (hn k hk))
    exact m_lockedFor (k := k) (by omega) e (lkv hS hk) (fun h => by rcases h with h | h; exact absurd h hl1; exact absurd h hl2) (fun _ _ => ⟨fun h => absurd h (by decide), fun _ => ⟨rfl, hJ⟩⟩)
  · rw [(s3 k hk).1] at hl
    obtain ⟨j, j1, j2⟩ := (opn hS).mp ho
    subst e
    have hok := seen_ok (o := o) (x := x1) hL hK hk
    refine x_seenBy hS hL hK hk j1 j2 ?_
    rw [lc_zero]
    refine ⟨fun hne => ?_, fun heq => ?_⟩
    · have hnn : ¬ seen w n x1 k < 0 := hok.resolve_left hne
      unfold w_X1_change
      refine x_hasRoom 1 0 a1 a3 (by omega) b1 (by omega) (by omega) rfl rfl (fun hr => ⟨fun _ => ?_, fun h => absurd h (by decide)⟩) (fun hr => ⟨fun h => absurd rfl h, fun _ => ?_⟩)
      · unfold w_X1_takeLock
        rw [nI_clamp (by omega)]
        refine ⟨vp_in_nI hk (by omega), vp_in_nI hk (by omega), x_write (n := n) a1 (by omega) ?_⟩
        unfold w_M0_remove
        refine m_isOpen a4 b1 (fun _ => ⟨fun h => absurd h (by decide), fun _ => ?_⟩) (fun hn => absurd j2 (hn j j1))
        refine m_isKey hC.2.1 hK (fun k' hk' e' => ⟨fun _ => ?_, fun h => absurd h (by decide)⟩) (fun hn => absurd rfl (hn k hk))
        refine m_lockedFor (k := k) (by omega) rfl (lkv hS hk) (fun _ => ⟨fun _ => ?_, fun h => absurd rfl h⟩) (fun h1 h2 => by rcases hl with h | h; exact absurd h h1; exact absurd h h2)
        refine m_row hC hS hK hk j1 j2 ?_
        rw [lg_cmp_ge]
        refine ⟨fun _ => ?_, fun h => absurd (Int64.not_lt.mp hnn) h⟩
        refine m_room 1 0 a2 a4 (by omega) b1 (by omega) (by omega) rfl rfl (fun _ => ⟨fun _ => ?_, fun h => absurd h (by decide)⟩) (fun h => by omega)
        refine m_write (n := n) a2 (by omega) ?_
        have e2 : g_A (ww w n 2 x1 (nI k)) 2 n = nI k := pk_us
        rw [nI_clamp (show n < 2 ^ 31 by omega), e2, nI_clamp (show k < 2 ^ 31 by omega)]
        refine ⟨vp_in_nI (by omega) (by omega), vp_in_nI (by omega) (by omega), rfl, ?_⟩
        have hA : Ag n w (s_A (ww w n 2 x1 (nI k)) 9 k x1) := fun i hi => ⟨upd_lt hi, upd_lt hi, upd_lt hi, rfl, rfl, rfl, rfl, rfl⟩
        have em : mdw (s_A (ww w n 2 x1 (nI k)) 9 k x1) n = -1 := by
          show (if upd (g_A w 0) n 2 n = 1 then _ else -1) = _
          rw [pk_us, if_neg (by decide)]
        have hS' := rs_change (z' := zw (s_L (s_A z 0 k x1) 1 k (-1)) n 0 x1 (nI k) (-1)) (w' := s_A (ww w n 2 x1 (nI k)) 9 k x1) (row := -1) hS hL j1 j2 hK hk hl (by omega) rfl rfl rfl rfl rfl rfl rfl rfl rfl rfl rfl rfl hA (Or.inr pk_us) pk_us pk_us em
        refine J_grow (z := z) (w := w) ⟨rfl, rfl, rfl, rfl, rfl, rfl, rfl, rfl, rfl, rfl, rfl, rfl, rfl, rfl, rfl, rfl, rfl, rfl, rfl, rfl, rfl, rfl, rfl, rfl, rfl, rfl, rfl, rfl⟩ ⟨rfl, rfl, rfl, rfl, rfl, rfl, rfl, rfl, rfl, rfl, rfl, rfl, rfl, rfl, rfl, rfl, rfl, rfl, rfl, rfl, rfl, rfl, rfl, rfl, rfl, rfl⟩ hA (by omega) (by omega) hL hC hP hH hW hKK hS' (rl_grow hL (Nat.le_refl _) hA (fun i hi => ⟨upd_lt hi, upd_lt hi, upd_lt hi, updL_lt hi⟩) ⟨?_, Or.inl ⟨pk_us, ?_, ⟨k, hk, pk_us⟩, ?_, Or.inr ⟨pk_us, pk_uLs⟩⟩⟩)
        · exact pk_us.trans pk_us.symm
        · exact pk_us.trans pk_us.symm
        · obtain ⟨-, m, m1, m2⟩ := s1 j j1
          exact ⟨m, m1, pk_us.trans (j2.symm.trans m2)⟩
      · unfold w_M0_remove
        refine m_isOpen a4 b1 (fun _ => ⟨fun h => absurd h (by decide), fun _ => ?_⟩) (fun hn => absurd j2 (hn j j1))
        refine m_isKey hC.2.1 hK (fun k' hk' e' => ⟨fun _ => ?_, fun h => absurd h (by decide)⟩) (fun hn => absurd rfl (hn k hk))
        refine m_lockedFor (k := k) (by omega) rfl (lkv hS hk) (fun _ => ⟨fun _ => ?_, fun h => absurd rfl h⟩) (fun h1 h2 => by rcases hl with h | h; exact absurd h h1; exact absurd h h2)
        refine m_row hC hS hK hk j1 j2 ?_
        rw [lg_cmp_ge]
        refine ⟨fun _ => ?_, fun h => absurd (Int64.not_lt.mp hnn) h⟩
        exact m_room 1 0 a2 a4 (by omega) b1 (by omega) (by omega) rfl rfl (fun h => by omega) (fun _ => ⟨fun h => absurd rfl h, fun _ => ⟨rfl, hJ⟩⟩)
    · unfold w_M0_remove
      refine m_isOpen a4 b1 (fun _ => ⟨fun h => absurd h (by decide), fun _ => ?_⟩) (fun hn => absurd j2 (hn j j1))
      refine m_isKey hC.2.1 hK (fun k' hk' e' => ⟨fun _ => ?_, fun h => absurd h (by decide)⟩) (fun hn => absurd rfl (hn k hk))
      refine m_lockedFor (k := k) (by omega) rfl (lkv hS hk) (fun _ => ⟨fun _ => ?_, fun h => absurd rfl h⟩) (fun h1 h2 => by rcases hl with h | h; exact absurd h h1; exact absurd h h2)
      refine m_row hC hS hK hk j1 j2 ?_
      rw [lg_cmp_ge, heq]
      exact ⟨fun h => absurd h (by decide), fun _ => ⟨rfl, hJ⟩⟩
end OP
