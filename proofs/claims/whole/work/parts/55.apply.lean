/-! apply, stored -/
section AP
variable {K C T : Nat} {le : Int32} {t n o bg q pl nx cz ep ph lw cut hg ap : Nat} {z w : St}
theorem kp_ok {r : Int64} (h : r = -1 ∨ ¬ r < 0) : kp le r = -1 ∨ ¬ kp le r < 0 := by
  unfold kp
  rcases h with h | h
  · rw [if_pos (by rw [h]; decide)]; exact Or.inl h
  · rw [if_neg h]
    split
    · exact Or.inr h
    · exact Or.inl rfl
theorem x_storeRow {Q : Unit → St → Prop} {k : Nat} {x : Int32} {r : Int64} (hx : x = nI k) (hk : k < K) (hK : K ≤ 12) (h15 : g_I z 15 = le) (hr : r = -1 ∨ ¬ r < 0) (hQ : Q () (s_L z 3 k (kp le r))) : w_X4_storeRow K x r z Q := by
  subst hx
  unfold w_X4_storeRow w_X0_amountOf
  have hin : vp_in (nI k) K := vp_in_nI hk (by omega)
  rw [lc_zero, nI_clamp (by omega), h15]
  unfold kp at hQ
  refine ⟨fun h => ⟨hin, ?_⟩, fun h => ⟨fun h2 => ⟨hin, ?_⟩, fun h2 => ⟨hin, ?_⟩⟩⟩
  · rw [if_pos (by rw [h]; decide), h] at hQ; exact hQ
  · rw [if_neg (hr.resolve_left h), if_neg (Int32.not_le.mpr h2)] at hQ; exact hQ
  · rw [if_neg (hr.resolve_left h), if_pos (Int32.not_lt.mp h2)] at hQ; exact hQ
def chv (w : St) (le : Int32) (x : Int32) (k : Nat) (i : Nat) (old : Int64) : Int64 := match lbw w x (nI k) i with
  | some j => kp le (mdw w j)
  | none => old
theorem x_changes_2 {x : Int32} {s : Nat} (hL : RL K n bg z w) (h16 : g_I z 16 = nI s) (hs : s ≤ n) (hn : n ≤ 160) (hK : K ≤ 12) (h15 : g_I z 15 = le) : ∀ (d i : Nat) (f : Nat → Int64), i + d = s → (∀ k, k < K → f k = chv w le x k i (g_L z 3 k)) → ∃ f' : Nat → Int64, (∀ k, k < K → f' k = chv w le x k s (g_L z 3 k)) ∧ ∀ Q : Unit → St → Prop, Q () (s_G z 3 f') → w_X4_storeChanges_2 K Q (d + 1) x (nI i) (s_G z 3 f)
  | 0, i, f, hd, hf => by
    have e : i = s := by omega
    subst e
    refine ⟨f, hf, fun Q hQ => ?_⟩
    unfold w_X4_storeChanges_2
    have e16 : g_I (s_G z 3 f) 16 = nI i := h16
    rw [e16]
    exact ⟨fun _ => hQ, fun hh => absurd (nI_le (Nat.le_refl _) (by omega)) hh⟩
  | d + 1, i, f, hd, hf => by
    have hin : i < n := by omega
    obtain ⟨r0, -⟩ := hL i hin
    have hch := rl_chg hL hin
    have e16 : ∀ f, g_I (s_G z 3 f) 16 = nI s := fun _ => h16
    by_cases hc : g_A z 6 i = 0 ∧ g_A z 7 i = x
    · obtain ⟨-, ⟨k0, k1, k2⟩, -, k4, k5, k6⟩ := rl_who hL hin (hch.mp hc.1)
      obtain ⟨f', h1, h2⟩ := x_changes_2 (x := x) hL h16 hs hn hK h15 d (i + 1) (vp_updL f k0 (kp le (mdw w i))) (by omega) (fun k hk => by
        rw [updL_at]
        unfold chv
        by_cases e : k = k0
        · subst e
          rw [if_pos rfl, lb_succ_eq ⟨r0.symm.trans hc.2, k2, hch.mp hc.1⟩]
        · rw [if_neg e, lb_succ_ne (fun hh => e (by have := hh.2.1; rw [k2, nI_eq (by omega) (by omega)] at this; exact this.symm))]
          exact hf k hk)
      refine ⟨f', h1, fun Q hQ => ?_⟩
      unfold w_X4_storeChanges_2
      rw [e16]
      refine ⟨fun hh => absurd hh (nI_ge (by omega) (by omega)), fun _ => x_isChange (z := s_G z 3 f) (by omega) (fun _ _ => ⟨fun h => absurd h (by decide), fun _ => ?_⟩) (fun h => absurd hc h)⟩
      have e8 : g_A (s_G z 3 f) 8 i = nI k0 := k4.trans k2
      have e4 : g_L (s_G z 3 f) 4 i = mdw w i := k5
      rw [nI_clamp (show i < 2 ^ 31 by omega), e8, e4, nI_1]
      refine ⟨vp_in_nI (by omega) (by omega), vp_in_nI (by omega) (by omega), x_storeRow (z := s_G z 3 f) rfl k1 hK h15 k6 ?_⟩
      rw [sL_sG]
      exact h2 Q hQ
    · obtain ⟨f', h1, h2⟩ := x_changes_2 (x := x) hL h16 hs hn hK h15 d (i + 1) f (by omega) (fun k hk => by
        unfold chv
        rw [lb_succ_ne (fun hh => hc ⟨hch.mpr hh.2.2, r0.trans hh.1⟩)]
        exact hf k hk)
      refine ⟨f', h1, fun Q hQ => ?_⟩
      unfold w_X4_storeChanges_2
      rw [e16]
      refine ⟨fun hh => absurd hh (nI_ge (by omega) (by omega)), fun _ => x_isChange (z := s_G z 3 f) (by omega) (fun h1 h2 => absurd ⟨h1, h2⟩ hc) (fun _ => ⟨fun _ => ?_, fun h => absurd rfl h⟩)⟩
      rw [nI_1]
      exact h2 Q hQ
def ckv (z : St) (le : Int32) (k : Nat) : Int64 := if g_L z 2 k = -1 then g_L z 3 k else kp le (g_L z 2 k)
theorem x_chunk_18 {b a : Nat} (hb : b ≤ K) (hK : K ≤ 12) (h15 : g_I z 15 = le) (hbr : ∀ k, a ≤ k → k < b → g_L z 2 k = -1 ∨ ¬ g_L z 2 k < 0) {pv : Int32} (hpv : (if (Int32.ofNat K) < (g_I z 18 + g_I z 14) then (Int32.ofNat K) else (g_I z 18 + g_I z 14)) = pv) : ∀ (d k : Nat) (f : Nat → Int64), k + d = b → a ≤ k → (∀ i, f i = if a ≤ i ∧ i < k then ckv z le i else g_L z 3 i) → ∃ f' : Nat → Int64, (∀ i, f' i = if a ≤ i ∧ i < b then ckv z le i else g_L z 3 i) ∧ ∀ Q : Unit → St → Prop, Q () (s_I (s_G z 3 f') 18 pv) → w_X4_storeChunk_18 K Q (d + 1) (nI b) (nI k) (s_G z 3 f)
  | 0, k, f, hd, hk, hf => by
    have e : k = b := by omega
    subst e
    refine ⟨f, hf, fun Q hQ => ?_⟩
    unfold w_X4_storeChunk_18
    have e18 : g_I (s_G z 3 f) 18 = g_I z 18 := rfl
    have e14 : g_I (s_G z 3 f) 14 = g_I z 14 := rfl
    rw [e18, e14, hpv]
    exact ⟨fun _ => hQ, fun hh => absurd (nI_le (Nat.le_refl _) (by omega)) hh⟩
  | d + 1, k, f, hd, hk, hf => by
    have hin : vp_in (nI k) K := vp_in_nI (by omega) (by omega)
    have e2 : g_L (s_G z 3 f) 2 k = g_L z 2 k := rfl
    have nxt : ∀ f2 : Nat → Int64, f2 k = ckv z le k → (∀ i, ¬ i = k → f2 i = f i) → ∀ i, f2 i = if a ≤ i ∧ i < k + 1 then ckv z le i else g_L z 3 i := by
      intro f2 h1 h2 i
      by_cases e : i = k
      · subst e; rw [if_pos (by omega)]; exact h1
      · rw [h2 i e, hf i]
        by_cases c : a ≤ i ∧ i < k
        · rw [if_pos c, if_pos (by omega)]
        · rw [if_neg c, if_neg (by omega)]
    by_cases h1 : g_L z 2 k = -1
    · obtain ⟨f', q1, q2⟩ := x_chunk_18 hb hK h15 hbr hpv d (k + 1) f (by omega) (by omega) (nxt f (by rw [hf k, if_neg (by omega)]; unfold ckv; rw [if_pos h1]) (fun _ _ => rfl))
      refine ⟨f', q1, fun Q hQ => ?_⟩
      unfold w_X4_storeChunk_18
      rw [nI_clamp (show k < 2 ^ 31 by omega), e2, lc_zero, nI_1]
      exact ⟨fun hh => absurd hh (nI_ge (by omega) (by omega)), fun _ => ⟨hin, fun _ => q2 Q hQ, fun hh => absurd h1 hh⟩⟩
    · obtain ⟨f', q1, q2⟩ := x_chunk_18 hb hK h15 hbr hpv d (k + 1) (vp_updL f k (kp le (g_L z 2 k))) (by omega) (by omega) (nxt _ (by rw [pk_uLs]; unfold ckv; rw [if_neg h1]) (fun i e => pk_uLn e))
      refine ⟨f', q1, fun Q hQ => ?_⟩
      unfold w_X4_storeChunk_18
      rw [nI_clamp (show k < 2 ^ 31 by omega), e2, lc_zero, nI_1]
      refine ⟨fun hh => absurd hh (nI_ge (by omega) (by omega)), fun _ => ⟨hin, fun hh => absurd hh h1, fun _ => ⟨hin, x_storeRow (z := s_G z 3 f) rfl (by omega) hK h15 (hbr k (by omega) (by omega)) ?_⟩⟩⟩
      rw [sL_sG]
      exact q2 Q hQ
theorem sd_upd {kd wh ky gp am lo cu fi dn : Nat → Int32} {C le k v : Int32} {m : Nat} : ∀ j, j ≤ m → sd kd wh ky gp am lo cu fi (upd dn m v) C le k j = sd kd wh ky gp am lo cu fi dn C le k j
  | 0, _ => rfl
  | j + 1, h => by
    have ih := sd_upd (kd := kd) (wh := wh) (ky := ky) (gp := gp) (am := am) (lo := lo) (cu := cu) (fi := fi) (dn := dn) (C := C) (le := le) (k := k) (v := v) (m := m) j (by omega)
    have e : upd dn m v j = dn j := by rw [upd_at, if_neg (by omega)]
    unfold sd
    rw [ih, e]
theorem hc_upd {kd dn : Nat → Int32} {v : Int32} {C m : Nat} : ∀ j, j ≤ m → hc_ kd (upd dn m v) C j = hc_ kd dn C j
  | 0, _ => rfl
  | j + 1, h => by
    have ih := hc_upd (kd := kd) (dn := dn) (v := v) (C := C) (m := m) j (by omega)
    have e : upd dn m v j = dn j := by rw [upd_at, if_neg (by omega)]
    unfold hc_
    rw [ih, e]
theorem sd_succ {w : St} {C le k : Int32} {ap s : Nat} (hs : s < 2 ^ 31) : sdw (s_A w 17 ap (nI s)) C le k (ap + 1) = (match evw w C le s k with
    | some r => r
    | none => sdw w C le k ap) := by
  show (match evw w C le (upd (g_A w 17) ap (nI s) ap).toNatClampNeg k with
    | some r => r
    | none => sd (g_A w 0) (g_A w 1) (g_A w 2) (g_A w 3) (g_A w 4) (g_A w 5) (g_A w 6) (g_A w 7) (upd (g_A w 17) ap (nI s)) C le k ap) = _
  rw [pk_us, nI_clamp hs, sd_upd ap (Nat.le_refl _)]
theorem hc_succ {w : St} {C ap s : Nat} (hs : s < 2 ^ 31) : hc_ (g_A (s_A w 17 ap (nI s)) 0) (g_A (s_A w 17 ap (nI s)) 17) C (ap + 1) = hc_ (g_A w 0) (g_A w 17) C ap + if g_A w 0 s = 6 then C else 0 := by
  show hc_ (g_A w 0) (upd (g_A w 17) ap (nI s)) C ap + (if g_A w 0 (upd (g_A w 17) ap (nI s) ap).toNatClampNeg = 6 then C else 0) = _
  rw [hc_upd ap (Nat.le_refl _), pk_us, nI_clamp hs]
/-- the sink's relation with one event more -/
theorem rk_apply {s : Nat} {f : Nat → Int64} {pv : Int32} (hn : n ≤ 160) (hKK : RK K C n nx ap le z w) (hs : g_I w 20 = nI s) (hE : EV K C nx n z w s) (hap : ap ≤ s) (hf : ∀ k, k < K → f k = (match evw w (nI C) le s (nI k) with
    | some r => r
    | none => g_L z 3 k)) (hpv : pv = nI (min (hc_ (g_A w 0) (g_A w 17) C ap + if g_A w 0 s = 6 then C else 0) K)) : RK K C n nx (ap + 1) le (s_I (s_I (s_I (s_G z 3 f) 18 pv) 17 (nI s)) 16 (-1)) (s_I (s_I (s_A w 17 ap (nI s)) 19 (nI (ap + 1))) 20 (-1)) := by
  obtain ⟨⟨k1, k2, k3⟩, kd, kr, kpp, -⟩ := hKK
  have hsn := hE.1
  have hs2 : s < 2 ^ 31 := by omega
  have hkind : g_A w 0 s = 3 ∨ g_A w 0 s = 6 := hE.2.imp id (fun h => h.1)
  refine ⟨⟨rfl, by omega, ?_⟩, fun j hj => ?_, fun k hk => ?_, ?_, rfl, Or.inl rfl⟩
  · show nI s = ps (upd (g_A w 17) ap (nI s)) (ap + 1)
    unfold ps
    rw [if_neg (by omega)]
    exact pk_us.symm
  · show ∃ d, upd (g_A w 17) ap (nI s) j = nI d ∧ j ≤ d ∧ d < n ∧ (g_A w 0 d = 3 ∨ g_A w 0 d = 6)
    rw [upd_at]
    by_cases e : j = ap
    · rw [if_pos e]; exact ⟨s, rfl, by omega, hsn, hkind⟩
    · rw [if_neg e]; exact kd j (by omega)
  · show f k = sdw (s_A w 17 ap (nI s)) (nI C) le (nI k) (ap + 1)
    rw [sd_succ hs2, hf k hk, kr k hk]
  · show pv = nI (min (hc_ (g_A (s_A w 17 ap (nI s)) 0) (g_A (s_A w 17 ap (nI s)) 17) C (ap + 1)) K)
    rw [hc_succ hs2]; exact hpv
theorem o_apply (hK : K ≤ 12) (hC6 : C ≤ 6) (hC1 : 1 ≤ C) (h : J K C T le t z w) : w_X0_apply K z (fun r u => w_M0_apply K w (fun r' u' => r = r' ∧ J K C T le (t + 1) u u')) := by
  have hJ := J_up h
  obtain ⟨n, o, bg, q, pl, nx, cz, ep, ph, lw, cut, hg, ap, hC, hS, hL, hP, hH, hW, hKK⟩ := hJ
  have hJ := J_up h
  have hn : n ≤ 160 := by have := hS.2.1.2.1; omega
  have hC0 := hC
  obtain ⟨c1, c2, c3, c4, c5, c6, c7, c8, c9, c10⟩ := hC0
  have hK0 := hKK
  obtain ⟨⟨k1, k2, k3⟩, kd, kr, kpp, ⟨ks1, ks2⟩⟩ := hK0
  unfold w_X0_apply w_X4_storeStaged
  rw [ks1]
  rcases ks2 with ks2 | ⟨s, s1, s2, s3⟩
  · refine ⟨fun h => absurd ks2 h, fun _ => ⟨fun h => absurd rfl h, fun _ => ?_⟩⟩
    unfold w_M0_apply
    rw [ks2]
    exact ⟨fun h => absurd h (by decide), fun _ => ⟨rfl, hJ⟩⟩
  · have hsn := s2.1
    have hap : ap ≤ s := by
      rcases s3 with s3 | ⟨d, d1, d2⟩
      · omega
      · rcases Nat.eq_zero_or_pos ap with h0 | h0
        · omega
        · obtain ⟨d', e1, e2, e3, -⟩ := kd (ap - 1) (by omega)
          rw [d1, nI_eq (by omega) (by omega)] at e1
          omega
    have hin : vp_in (nI s) 160 := vp_in_nI (by omega) (by omega)
    have h16 : g_I z 16 = nI s := ks1.trans s1
    -- what both do behind the storing
    have fin : ∀ (f : Nat → Int64) (pv : Int32), (∀ k, k < K → f k = (match evw w (nI C) le s (nI k) with
        | some r => r
        | none => g_L z 3 k)) → pv = nI (min (hc_ (g_A w 0) (g_A w 17) C ap + if g_A w 0 s = 6 then C else 0) K) → w_X0_sendAck K (s_I (s_I (s_I (s_G z 3 f) 18 pv) 17 (nI s)) 16 (-1)) (fun r3 u4 => w_M0_apply K w (fun r' u' => (1 : Int32) = r' ∧ J K C T le (t + 1) u4 u')) := by
      intro f pv hf hpv
      have hR := rk_apply hn hKK s1 s2 hap hf hpv
      obtain ⟨cz', z2, w2, hJ2, aX, aM⟩ := p_ack (z := s_I (s_I (s_I (s_G z 3 f) 18 pv) 17 (nI s)) 16 (-1)) (w := s_I (s_I (s_A w 17 ap (nI s)) 19 (nI (ap + 1))) 20 (-1)) (K := K) (C := C) (T := T) (le := le) (t := t + 1) (n := n) (o := o) (bg := bg) (q := q) (pl := pl) (nx := nx) (cz := cz) (ep := ep) (ph := ph) (lw := lw) (cut := cut) (hg := hg) (ap := ap + 1) ⟨hC, hS, hL, hP, hH, hW, hR⟩
      refine aX _ ?_
      unfold w_M0_apply
      rw [k1, s1, nI_clamp (show ap < 2 ^ 31 by omega), nI_1]
      exact ⟨fun _ => ⟨vp_in_nI (by omega) (by omega), aM _ ⟨rfl, JP.J hJ2⟩⟩, fun h => absurd (nI_pos' (by omega)) h⟩
    rw [s1]
    refine ⟨fun _ => ?_, fun h => absurd h (i_ne_m1 (by omega))⟩
    rw [nI_clamp (show s < 2 ^ 31 by omega)]
    have hk4 : g_A z 6 s = 4 ↔ g_A w 0 s = 6 := by
      obtain ⟨-, r⟩ := hL s hsn
      rcases r with ⟨r1, -, -, -, ⟨r2, -⟩ | ⟨r2, -⟩⟩ | ⟨r1, r2⟩ | ⟨r1, r2⟩ | ⟨r1, r2⟩ | ⟨r1, r2, -⟩ <;> rw [r1, r2] <;> decide
    refine ⟨hin, fun hne => ⟨hin, ?_⟩, fun heq => ⟨hin, ?_⟩⟩
    · -- a commit
      have h3 : g_A w 0 s = 3 := s2.2.resolve_right (fun h => hne (hk4.mpr h.1))
      obtain ⟨f, hf1, hf2⟩ := x_changes_2 (z := z) (w := w) (x := g_A w 1 s) (s := s) hL h16 (by omega) hn hK c9 s 0 (g_L z 3) (by omega) (fun k hk => rfl)
      rw [(hL s hsn).1]
      unfold w_X4_storeChanges
      have hfin := fin f (g_I z 18) (fun k hk => by
        rw [hf1 k hk]
        unfold chv evw ev
        rw [if_pos h3]
        have el : lbw w (g_A w 1 s) (nI k) s = lb (g_A w 0) (g_A w 1) (g_A w 2) (g_A w 1 s) (nI k) s := rfl
        rw [el]
        cases lb (g_A w 0) (g_A w 1) (g_A w 2) (g_A w 1 s) (nI k) s <;> rfl) (by rw [kpp, if_neg (by rw [h3]; decide), Nat.add_zero])
      have h2 := hf2 (fun r1 u2 => (fun (r : Int32) u => ((¬ r = 0 → w_X0_sendAck K u (fun r3 u4 => (fun (r : Int32) u => w_M0_apply K w (fun r' u' => r = r' ∧ J K C T le (t + 1) u u')) 1 u4)) ∧ (r = 0 → (fun (r : Int32) u => w_M0_apply K w (fun r' u' => r = r' ∧ J K C T le (t + 1) u u')) 0 u))) 1 (s_I (s_I u2 17 (g_I u2 16)) 16 (-1))) (by
        have e16 : g_I (s_G z 3 f) 16 = nI s := h16
        dsimp only
        rw [e16]
        refine ⟨fun _ => ?_, fun h => absurd h (by decide)⟩
        have e18 : s_I (s_G z 3 f) 18 (g_I z 18) = s_G z 3 f := by
          have eu : upd z.1 18 (z.1 18) = z.1 := by
            funext j
            rw [upd_at]
            split
            · rename_i h; rw [h]
            · rfl
          show (upd z.1 18 (z.1 18), z.2.1, va_up z.2.2 3 f) = (z.1, z.2.1, va_up z.2.2 3 f)
          rw [eu]
        rw [e18] at hfin
        exact hfin)
      rw [sG_id] at h2
      exact ⟨_, h2⟩
    · -- a high
      have h6 : g_A w 0 s = 6 := hk4.mp heq
      have h3 : ¬ g_A w 0 s = 3 := by rw [h6]; decide
      obtain ⟨-, f0, lo, cu, ⟨b1, b2⟩, e7, e5, e6, efx, ebr⟩ := s2.2.resolve_left h3
      have hfK : f0 < K := by
        obtain ⟨-, r⟩ := hL s hsn
        rcases r with ⟨-, -, -, -, ⟨r2, -⟩ | ⟨r2, -⟩⟩ | ⟨-, r2⟩ | ⟨-, r2⟩ | ⟨-, r2⟩ | ⟨-, -, -, lo', cu', fi', -, -, r3, -, -, r4⟩
        · rw [h6] at r2; exact absurd r2 (by decide)
        · rw [h6] at r2; exact absurd r2 (by decide)
        · rw [h6] at r2; exact absurd r2 (by decide)
        · rw [h6] at r2; exact absurd r2 (by decide)
        · rw [h6] at r2; exact absurd r2 (by decide)
        · rw [e7] at r4
          have hnx := hP.2.2.2.2.2.2.2.2.2
          rw [nI_eq (by omega) (by omega)] at r4
          omega
      have hkey : g_A z 8 s = nI f0 := by
        obtain ⟨-, r⟩ := hL s hsn
        rcases r with ⟨-, -, -, -, ⟨r2, -⟩ | ⟨r2, -⟩⟩ | ⟨-, r2⟩ | ⟨-, r2⟩ | ⟨-, r2⟩ | ⟨-, -, r3, -⟩
        · rw [h6] at r2; exact absurd r2 (by decide)
        · rw [h6] at r2; exact absurd r2 (by decide)
        · rw [h6] at r2; exact absurd r2 (by decide)
        · rw [h6] at r2; exact absurd r2 (by decide)
        · rw [h6] at r2; exact absurd r2 (by decide)
        · exact r3.trans e7
      have hbr : ∀ k, f0 ≤ k → k < min (f0 + C) K → g_L z 2 k = -1 ∨ ¬ g_L z 2 k < 0 := by
        intro k q1 q2
        rw [ebr k q1 (by omega) (by omega)]
        split
        · exact Or.inl rfl
        · exact tb_ok hL hK (by omega) cu (by omega)
      have hpv : (if (Int32.ofNat K) < (g_I z 18 + g_I z 14) then (Int32.ofNat K) else (g_I z 18 + g_I z 14)) = nI (min (hc_ (g_A w 0) (g_A w 17) C ap + if g_A w 0 s = 6 then C else 0) K) := by
        rw [kpp, c6, if_pos h6]
        have ha := after_eq (K := K) (C := C) (nx := min (hc_ (g_A w 0) (g_A w 17) C ap) K) hC6 hK (by omega)
        have ha' : (if (Int32.ofNat K) < (nI (min (hc_ (g_A w 0) (g_A w 17) C ap) K) + nI C) then (Int32.ofNat K) else (nI (min (hc_ (g_A w 0) (g_A w 17) C ap) K) + nI C)) = nI (min (min (hc_ (g_A w 0) (g_A w 17) C ap) K + C) K) := ha
        rw [ha']
        congr 1
        omega
      obtain ⟨f, hf1, hf2⟩ := x_chunk_18 (z := z) (le := le) (a := f0) (b := min (f0 + C) K) (by omega) hK c9 hbr hpv (min (f0 + C) K - f0) f0 (g_L z 3) (by omega) (Nat.le_refl _) (fun i => by rw [if_neg (by omega)])
      rw [hkey]
      unfold w_X4_storeChunk
      rw [c6]
      have ha : (if (Int32.ofNat K) < (nI f0 + nI C) then (Int32.ofNat K) else (nI f0 + nI C)) = nI (min (f0 + C) K) := after_eq hC6 hK (by omega)
      rw [ha]
      have hfin := fin f _ (fun k hk => by
        rw [hf1 k]
        unfold ckv evw ev
        rw [if_neg h3, e7, e5, e6, nI_clamp (show lo < 2 ^ 31 by omega), nI_clamp (show cu < 2 ^ 31 by omega), nI_add]
        by_cases r1 : k < f0
        · rw [if_neg (by omega), if_pos (nI_lt r1 (by omega))]
        · rw [if_neg (nI_nlt (by omega) (by omega))]
          by_cases r2 : f0 + C ≤ k
          · rw [if_neg (by omega), if_pos (nI_le r2 (by omega))]
          · rw [if_pos (by omega), if_neg (nI_ge (by omega) (by omega)), ebr k (by omega) (by omega) hk]
            have et := tb_ok hL hK hk cu (show cu ≤ n by omega)
            have es : skw w (nI k) lo s = sk (g_A w 0) (g_A w 1) (g_A w 2) (nI k) lo s := rfl
            have ett : tbw w (nI k) cu = tb (g_A w 0) (g_A w 1) (g_A w 2) (g_A w 3) (g_A w 4) (nI k) cu := rfl
            rw [← es, ← ett]
            by_cases r3 : skw w (nI k) lo s = true
            · rw [if_pos r3, if_pos r3, if_pos rfl]
            · rw [if_neg r3, if_neg r3]
              rcases et with et | et
              · rw [if_pos et, if_pos (by rw [et]; decide)]
              · rw [if_neg (fun h => et (by rw [h]; decide)), if_neg et]) rfl
      have h2 := hf2 (fun r1 u2 => (fun (r : Int32) u => ((¬ r = 0 → w_X0_sendAck K u (fun r3 u4 => (fun (r : Int32) u => w_M0_apply K w (fun r' u' => r = r' ∧ J K C T le (t + 1) u u')) 1 u4)) ∧ (r = 0 → (fun (r : Int32) u => w_M0_apply K w (fun r' u' => r = r' ∧ J K C T le (t + 1) u u')) 0 u))) 1 (s_I (s_I u2 17 (g_I u2 16)) 16 (-1))) (by
        have e16 : ∀ pv, g_I (s_I (s_G z 3 f) 18 pv) 16 = nI s := fun _ => h16
        dsimp only
        rw [e16]
        exact ⟨fun _ => hfin, fun h => absurd h (by decide)⟩)
      rw [sG_id] at h2
      exact ⟨_, h2⟩
theorem o_stored (hK : K ≤ 12) (x1 : Int32) (h : J K C T le t z w) : w_X0_stored K x1 z (fun r u => w_M0_stored K x1 w (fun r' u' => r = r' ∧ J K C T le (t + 1) u u')) := by
  have hJ := J_up h
  obtain ⟨n, o, bg, q, pl, nx, cz, ep, ph, lw, cut, hg, ap, hC, hS, hL, hP, hH, hW, hKK⟩ := h
  have hn : n ≤ 160 := by have := hS.2.1.2.1; omega
  obtain ⟨c1, c2, c3, c4, c5, c6, c7, c8, c9, c10⟩ := hC
  obtain ⟨⟨k1, k2, k3⟩, kd, kr, kpp, -⟩ := hKK
  unfold w_X0_stored
  refine x_isKey c1 hK (fun k hk e => ⟨fun h => absurd h (by decide), fun _ => ?_⟩) (fun hno => ⟨fun _ => ?_, fun h => absurd rfl h⟩)
  · subst e
    rw [nI_clamp (show k < 2 ^ 31 by omega)]
    refine ⟨vp_in_nI hk (by omega), ?_⟩
    unfold w_M0_stored
    refine m_isKey c2 hK (fun k' hk' e' => ⟨fun _ => ?_, fun h => absurd h (by decide)⟩) (fun hno => absurd rfl (hno k hk))
    rw [k1, i_m1]
    refine ⟨_, m_stored_19 ap k2 (fun j hj => ?_) ?_⟩
    · obtain ⟨d, d1, -, d3, d4⟩ := kd j hj
      obtain ⟨r1, r2⟩ := rl_ok hL d3 d4
      refine ⟨d, d1, by omega, ?_⟩
      rcases r2 with r2 | ⟨r2, lo, cu, r3, r4, r5, r6⟩
      · exact Or.inl r2
      · exact Or.inr ⟨by rw [r2]; decide, lo, cu, r3, r4, r5, r6⟩
    · rw [c5, c10]
      exact ⟨kr k hk, hJ⟩
  · unfold w_M0_stored
    exact m_isKey c2 hK (fun k' hk' e' => absurd e' (hno k' hk')) (fun _ => ⟨fun h => absurd rfl h, fun _ => ⟨rfl, hJ⟩⟩)
end AP
