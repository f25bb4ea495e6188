/-! what the reference's methods answer, in the log's functions -/
def oI (o : Option Nat) : Int32 := match o with
  | some i => nI i
  | none => -1
theorem oI_neg {o : Option Nat} (h : ∀ i, o = some i → i < 2 ^ 31) : oI o < 0 ↔ o = none := by
  cases o with
  | none => exact ⟨fun _ => rfl, fun _ => by show (-1 : Int32) < 0; decide⟩
  | some i => exact ⟨fun h1 => absurd h1 (nI_pos (h i rfl)), fun h1 => by cases h1⟩
section MS
variable {K : Nat} {w : St}
theorem m_lastBy_5 {Q : Int32 → St → Prop} {x1 x2 : Int32} : ∀ p, p ≤ 160 → Q (oI (lbw w x1 x2 p)) w → w_M0_lastBy_5 K Q (p + 1) x1 x2 (nI p + (-1)) w
  | 0, _, hQ => by
    unfold w_M0_lastBy_5
    rw [i_neg]
    exact ⟨fun _ => hQ, fun h => absurd (show (-1 : Int32) < 0 by decide) h⟩
  | p + 1, hp, hQ => by
    unfold w_M0_lastBy_5
    rw [pk_m1, nI_clamp (by omega)]
    have hin : vp_in (nI p) 160 := vp_in_nI (by omega) (by omega)
    have ih := fun h => m_lastBy_5 (Q := Q) (x1 := x1) (x2 := x2) p (by omega) h
    have hu : lbw w x1 x2 (p + 1) = if g_A w 1 p = x1 ∧ g_A w 2 p = x2 ∧ (g_A w 0 p = 1 ∨ g_A w 0 p = 2) then some p else lbw w x1 x2 p := rfl
    refine ⟨fun h => absurd h (nI_pos (by omega)), fun _ => ⟨hin, fun h1 => ih ?_, fun h1 => ⟨hin, fun h2 => ih ?_, fun h2 => ⟨hin, fun h3 => ?_, fun h3 => ⟨hin, fun h4 => ih ?_, fun h4 => ?_⟩⟩⟩⟩⟩
    · rw [hu, if_neg (fun h => h1 h.1)] at hQ; exact hQ
    · rw [hu, if_neg (fun h => h2 h.2.1)] at hQ; exact hQ
    · rw [hu, if_pos ⟨h1, h2, Or.inl h3⟩] at hQ; exact hQ
    · rw [hu, if_neg (fun h => h.2.2.elim h3 h4)] at hQ; exact hQ
    · rw [hu, if_pos ⟨h1, h2, Or.inr h4⟩] at hQ; exact hQ
theorem m_lastBy {Q : Int32 → St → Prop} {x1 x2 x3 : Int32} {p : Nat} (hx : x3 = nI p) (hp : p ≤ 160) (hQ : Q (oI (lbw w x1 x2 p)) w) : w_M0_lastBy K x1 x2 x3 w Q := by
  subst hx
  unfold w_M0_lastBy
  rw [i_m1]
  exact ⟨_, m_lastBy_5 p hp hQ⟩
theorem m_made {Q : Int64 → St → Prop} {x1 : Int32} {i : Nat} (hx : x1 = nI i) (hi : i < 160) (hQ : Q (mdw w i) w) : w_M0_made K x1 w Q := by
  subst hx
  unfold w_M0_made w_M0_rowOf
  rw [nI_clamp (by omega)]
  have hin : vp_in (nI i) 160 := vp_in_nI hi (by omega)
  refine ⟨hin, fun h => ?_, fun h => ⟨hin, hin, ?_⟩⟩
  · have e : mdw w i = -1 := if_neg h
    rw [e] at hQ; exact hQ
  · have e : mdw w i = rw_ (g_A w 3 i) (g_A w 4 i) := if_pos h
    rw [e] at hQ; exact hQ
theorem m_table_4 {Q : Int64 → St → Prop} {k : Int32} : ∀ p, p ≤ 160 → Q (tbw w k p) w → w_M0_table_4 K Q (p + 1) k (nI p + (-1)) w
  | 0, _, hQ => by
    unfold w_M0_table_4 w_M0_rowOf
    rw [i_neg]
    exact ⟨fun _ => hQ, fun h => absurd (show (-1 : Int32) < 0 by decide) h⟩
  | p + 1, hp, hQ => by
    unfold w_M0_table_4
    rw [pk_m1, nI_clamp (by omega)]
    have hin : vp_in (nI p) 160 := vp_in_nI (by omega) (by omega)
    have ih := fun h => m_table_4 (Q := Q) (k := k) p (by omega) h
    refine ⟨fun h => absurd h (nI_pos (by omega)), fun _ => ⟨hin, fun h1 => ih ?_, fun h1 => ⟨hin, ?_⟩⟩⟩
    · have e : tbw w k (p + 1) = tbw w k p := if_neg h1
      rw [e] at hQ; exact hQ
    · refine m_lastBy rfl (by omega) ?_
      have hlt : ∀ i, lbw w (g_A w 1 p) k p = some i → i < p := fun i h => (lb_lt h).1
      have e : tbw w k (p + 1) = (match lbw w (g_A w 1 p) k p with
        | some i => mdw w i
        | none => tbw w k p) := if_pos h1
      rw [e] at hQ
      generalize lbw w (g_A w 1 p) k p = o at hQ hlt ⊢
      cases o with
      | none => exact ⟨fun _ => ih hQ, fun h => absurd (show (-1 : Int32) < 0 by decide) h⟩
      | some i => exact ⟨fun h => absurd h (nI_pos (by have := hlt i rfl; omega)), fun _ => m_made rfl (by have := hlt i rfl; omega) hQ⟩
theorem m_table {Q : Int64 → St → Prop} {k x2 : Int32} {p : Nat} (hx : x2 = nI p) (hp : p ≤ 160) (hQ : Q (tbw w k p) w) : w_M0_table K k x2 w Q := by
  subst hx
  unfold w_M0_table
  rw [i_m1]
  exact ⟨_, m_table_4 p hp hQ⟩
/-- struck, from a place on -/
def sf (kd wh ky : Nat → Int32) (k : Int32) (b : Nat) : Nat → Nat → Bool
  | 0, _ => false
  | d + 1, c => (decide (kd c = 3) && (lb kd wh ky (wh c) k c).isSome) || sf kd wh ky k b d (c + 1)
theorem m_struck_5 {Q : Int32 → St → Prop} {k : Int32} {b : Nat} (hb : b ≤ 160) (h0 : ∀ r, (r = 0 ∨ r = 1) → (r = 1 ↔ skw w k 0 0 = true) → True) : ∀ d c, c + d = b → Q (if sf (g_A w 0) (g_A w 1) (g_A w 2) k b d c = true then 1 else 0) w → w_M0_struck_5 K Q (d + 1) k (nI b) (nI c) w
  | 0, c, hc, hQ => by
    unfold w_M0_struck_5
    exact ⟨fun _ => hQ, fun h => absurd (nI_le (by omega) (by omega)) h⟩
  | d + 1, c, hc, hQ => by
    unfold w_M0_struck_5
    rw [nI_clamp (by omega), nI_1]
    have hin : vp_in (nI c) 160 := vp_in_nI (by omega) (by omega)
    have ih := fun h => m_struck_5 (Q := Q) (k := k) hb h0 d (c + 1) (by omega) h
    have hu : sf (g_A w 0) (g_A w 1) (g_A w 2) k b (d + 1) c = ((decide (g_A w 0 c = 3) && (lbw w (g_A w 1 c) k c).isSome) || sf (g_A w 0) (g_A w 1) (g_A w 2) k b d (c + 1)) := rfl
    refine ⟨fun h => absurd h (nI_ge (by omega) (by omega)), fun _ => ⟨hin, fun h1 => ih ?_, fun h1 => ⟨hin, ?_⟩⟩⟩
    · rw [hu] at hQ
      simpa [h1] using hQ
    · refine m_lastBy rfl (by omega) ?_
      have hlt : ∀ i, lbw w (g_A w 1 c) k c = some i → i < c := fun i h => (lb_lt h).1
      rw [hu] at hQ
      generalize lbw w (g_A w 1 c) k c = o at hQ hlt ⊢
      cases o with
      | none => exact ⟨fun _ => ih (by simpa [h1] using hQ), fun h => absurd (show (-1 : Int32) < 0 by decide) h⟩
      | some i => exact ⟨fun h => absurd h (nI_pos (by have := hlt i rfl; omega)), fun _ => by simpa [h1] using hQ⟩
theorem sf_iff {kd wh ky : Nat → Int32} {k : Int32} {b : Nat} : ∀ d c, (sf kd wh ky k b d c = true ↔ ∃ e, c ≤ e ∧ e < c + d ∧ kd e = 3 ∧ (lb kd wh ky (wh e) k e).isSome = true)
  | 0, c => by
    constructor
    · intro h; cases h
    · rintro ⟨e, h1, h2, -⟩; omega
  | d + 1, c => by
    unfold sf
    rw [Bool.or_eq_true, Bool.and_eq_true, decide_eq_true_iff, sf_iff d (c + 1)]
    constructor
    · rintro (⟨h1, h2⟩ | ⟨e, h1, h2, h3⟩)
      · exact ⟨c, by omega, by omega, h1, h2⟩
      · exact ⟨e, by omega, by omega, h3⟩
    · rintro ⟨e, h1, h2, h3⟩
      by_cases hec : e = c
      · subst hec; exact Or.inl h3
      · exact Or.inr ⟨e, by omega, by omega, h3⟩
theorem sk_iff {kd wh ky : Nat → Int32} {k : Int32} {a : Nat} : ∀ p, (sk kd wh ky k a p = true ↔ ∃ e, a < e ∧ e < p ∧ kd e = 3 ∧ (lb kd wh ky (wh e) k e).isSome = true)
  | 0 => by
    constructor
    · intro h; cases h
    · rintro ⟨e, h1, h2, -⟩; omega
  | p + 1 => by
    unfold sk
    rw [Bool.or_eq_true, Bool.and_eq_true, Bool.and_eq_true, decide_eq_true_iff, decide_eq_true_iff, sk_iff p]
    constructor
    · rintro (⟨⟨h1, h2⟩, h3⟩ | ⟨e, h1, h2, h3⟩)
      · exact ⟨p, h1, by omega, h2, h3⟩
      · exact ⟨e, h1, by omega, h3⟩
    · rintro ⟨e, h1, h2, h3, h4⟩
      by_cases hec : e = p
      · subst hec; exact Or.inl ⟨⟨h1, h3⟩, h4⟩
      · exact Or.inr ⟨e, h1, by omega, h3, h4⟩
theorem m_struck {Q : Int32 → St → Prop} {k x2 x3 : Int32} {a b : Nat} (ha : x2 = nI a) (hb : x3 = nI b) (hab : a < b) (hb2 : b ≤ 160) (hQ : Q (if skw w k a b = true then 1 else 0) w) : w_M0_struck K k x2 x3 w Q := by
  subst ha; subst hb
  unfold w_M0_struck
  rw [nI_1]
  refine ⟨_, m_struck_5 hb2 (fun _ _ _ => trivial) (b - (a + 1)) (a + 1) (by omega) ?_⟩
  have e : sf (g_A w 0) (g_A w 1) (g_A w 2) k b (b - (a + 1)) (a + 1) = skw w k a b := by
    rw [Bool.eq_iff_iff, sf_iff, sk_iff]
    constructor
    · rintro ⟨e, h1, h2, h3⟩; exact ⟨e, by omega, by omega, h3⟩
    · rintro ⟨e, h1, h2, h3⟩; exact ⟨e, by omega, by omega, h3⟩
  rw [e]
  exact hQ
theorem lc_neg (r : Int64) : lg_cmp r 0 < 0 ↔ r < 0 := by
  have h := lg_cmp_ge r 0
  rw [← Int32.not_le, ← Int64.not_le, h]
theorem lc_zero (x y : Int64) : lg_cmp x y = 0 ↔ x = y := by
  unfold lg_cmp
  constructor
  · intro h
    split at h
    · exact absurd h (by decide)
    · split at h
      · assumption
      · exact absurd h (by decide)
  · rintro rfl
    exact lc_self x
theorem m_kept {Q : Int64 → St → Prop} {r : Int64} (hQ : Q (kp (g_I w 3) r) w) : w_M0_kept K r w Q := by
  unfold w_M0_kept
  rw [lc_neg]
  unfold kp at hQ
  refine ⟨fun h => ?_, fun h => ⟨fun h2 => ?_, fun h2 => ?_⟩⟩
  · rw [if_pos h] at hQ; exact hQ
  · rw [if_neg h, if_pos h2] at hQ; exact hQ
  · rw [if_neg h, if_neg h2] at hQ; exact hQ
/-- an entry that speaks: a commit, or a high with its low and cut before it -/
def okE (w : St) (e : Nat) : Prop := e < 160 ∧ (g_A w 0 e = 3 ∨ (¬ g_A w 0 e = 3 ∧ ∃ lo cu, lo < e ∧ cu ≤ e ∧ g_A w 5 e = nI lo ∧ g_A w 6 e = nI cu))
theorem m_speaks {Q : Int32 → St → Prop} {e : Nat} {x1 k : Int32} (hx : x1 = nI e) (he : okE w e) (hQ : Q (if (evw w (g_I w 1) (g_I w 3) e k).isSome = true then 1 else 0) w) : w_M0_speaks K x1 k w Q := by
  subst hx
  obtain ⟨he1, he2⟩ := he
  unfold w_M0_speaks
  rw [nI_clamp (by omega)]
  have hin : vp_in (nI e) 160 := vp_in_nI he1 (by omega)
  refine ⟨hin, fun h => ?_, fun h => ⟨hin, ?_⟩⟩
  · obtain ⟨-, lo, cu, h1, h2, h3, h4⟩ := he2.resolve_left h
    rw [h3]
    refine ⟨hin, fun c1 => ?_, fun c1 => ⟨hin, fun c2 => ?_, fun c2 => ⟨hin, ?_⟩⟩⟩
    · have e1 : evw w (g_I w 1) (g_I w 3) e k = none := by unfold evw ev; rw [if_neg h, if_pos c1]
      rw [e1] at hQ; exact hQ
    · have e1 : evw w (g_I w 1) (g_I w 3) e k = none := by unfold evw ev; rw [if_neg h, if_neg c1, if_pos c2]
      rw [e1] at hQ; exact hQ
    · refine m_struck rfl rfl h1 (by omega) ?_
      have e1 : evw w (g_I w 1) (g_I w 3) e k = if skw w k lo e = true then none else if tbw w k cu < 0 then none else some (kp (g_I w 3) (tbw w k cu)) := by
        unfold evw ev
        rw [if_neg h, if_neg c1, if_neg c2, h3, h4, nI_clamp (by omega), nI_clamp (by omega)]
      rw [e1] at hQ
      by_cases hs : skw w k lo e = true
      · rw [if_pos hs] at hQ
        rw [if_pos hs]
        exact ⟨fun _ => hQ, fun h => absurd h (by decide)⟩
      · rw [if_neg hs] at hQ
        rw [if_neg hs]
        refine ⟨fun h => absurd rfl h, fun _ => ⟨hin, ?_⟩⟩
        refine m_table h4 (by omega) ?_
        rw [lc_neg]
        refine ⟨fun c3 => ?_, fun c3 => ?_⟩
        · rw [if_pos c3] at hQ; exact hQ
        · rw [if_neg c3] at hQ; exact hQ
  · refine m_lastBy rfl (by omega) ?_
    have hlt : ∀ i, lbw w (g_A w 1 e) k e = some i → i < e := fun i h => (lb_lt h).1
    have e1 : evw w (g_I w 1) (g_I w 3) e k = (match lbw w (g_A w 1 e) k e with
      | some i => some (kp (g_I w 3) (mdw w i))
      | none => none) := by unfold evw ev; rw [if_pos h]; rfl
    rw [e1] at hQ
    generalize lbw w (g_A w 1 e) k e = o at hQ hlt ⊢
    cases o with
    | none => exact ⟨fun _ => hQ, fun h => absurd (show (-1 : Int32) < 0 by decide) h⟩
    | some i => exact ⟨fun h => absurd h (nI_pos (by have := hlt i rfl; omega)), fun _ => hQ⟩
theorem m_says {Q : Int64 → St → Prop} {e : Nat} {x1 k : Int32} {r : Int64} (hx : x1 = nI e) (he : okE w e) (hr : evw w (g_I w 1) (g_I w 3) e k = some r) (hQ : Q r w) : w_M0_says K x1 k w Q := by
  subst hx
  obtain ⟨he1, he2⟩ := he
  unfold w_M0_says
  rw [nI_clamp (by omega)]
  have hin : vp_in (nI e) 160 := vp_in_nI he1 (by omega)
  refine ⟨hin, fun h => ?_, fun h => ⟨hin, ?_⟩⟩
  · obtain ⟨-, lo, cu, h1, h2, h3, h4⟩ := he2.resolve_left h
    refine ⟨hin, m_table h4 (by omega) (m_kept ?_)⟩
    unfold evw ev at hr
    rw [if_neg h, h3, h4, nI_clamp (by omega), nI_clamp (by omega)] at hr
    split at hr
    · cases hr
    · split at hr
      · cases hr
      · split at hr
        · cases hr
        · split at hr
          · cases hr
          · cases hr; exact hQ
  · refine m_lastBy rfl (by omega) ?_
    have hlt : ∀ i, lbw w (g_A w 1 e) k e = some i → i < e := fun i h => (lb_lt h).1
    have e1 : evw w (g_I w 1) (g_I w 3) e k = (match lbw w (g_A w 1 e) k e with
      | some i => some (kp (g_I w 3) (mdw w i))
      | none => none) := by unfold evw ev; rw [if_pos h]; rfl
    rw [e1] at hr
    generalize lbw w (g_A w 1 e) k e = o at hr hlt ⊢
    cases o with
    | none => cases hr
    | some i => cases hr; exact m_made rfl (by have := hlt i rfl; omega) (m_kept hQ)
theorem m_stored_19 {Q : Int64 → St → Prop} {k : Int32} : ∀ p, p ≤ 160 → (∀ j, j < p → ∃ e, g_A w 17 j = nI e ∧ okE w e) → Q (sdw w (g_I w 1) (g_I w 3) k p) w → w_M0_stored_19 K Q (p + 1) k (nI p + (-1)) w
  | 0, _, _, hQ => by
    unfold w_M0_stored_19
    rw [i_neg]
    exact ⟨fun _ => hQ, fun h => absurd (show (-1 : Int32) < 0 by decide) h⟩
  | p + 1, hp, hd, hQ => by
    unfold w_M0_stored_19
    rw [pk_m1, nI_clamp (by omega)]
    have hin : vp_in (nI p) 160 := vp_in_nI (by omega) (by omega)
    have ih := fun h => m_stored_19 (Q := Q) (k := k) p (by omega) (fun j hj => hd j (by omega)) h
    obtain ⟨e, he, hok⟩ := hd p (by omega)
    have e1 : sdw w (g_I w 1) (g_I w 3) k (p + 1) = (match evw w (g_I w 1) (g_I w 3) e k with
      | some r => r
      | none => sdw w (g_I w 1) (g_I w 3) k p) := by
      show (match evw w (g_I w 1) (g_I w 3) (g_A w 17 p).toNatClampNeg k with
        | some r => r
        | none => sdw w (g_I w 1) (g_I w 3) k p) = _
      rw [he, nI_clamp (by have := hok.1; omega)]
    rw [e1] at hQ
    refine ⟨fun h => absurd h (nI_pos (by omega)), fun _ => ⟨hin, m_speaks he hok ?_⟩⟩
    cases hr : evw w (g_I w 1) (g_I w 3) e k with
    | none =>
      rw [hr] at hQ
      exact ⟨fun _ => ih hQ, fun h => absurd rfl h⟩
    | some r =>
      rw [hr] at hQ
      exact ⟨fun h => absurd (show (1 : Int32) = 0 from h) (by decide), fun _ => ⟨hin, m_says he hok hr hQ⟩⟩
theorem m_position {Q : Int32 → St → Prop} {ap : Nat} (ha : g_I w 19 = nI ap) (hap : ap ≤ 160) (hQ : Q (ps (g_A w 17) ap) w) : w_M0_position K w Q := by
  unfold w_M0_position
  rw [ha]
  unfold ps at hQ
  rcases Nat.eq_zero_or_pos ap with h0 | h0
  · subst h0
    exact ⟨fun h => absurd rfl h, fun _ => hQ⟩
  · obtain ⟨j, rfl⟩ : ∃ j, ap = j + 1 := ⟨ap - 1, by omega⟩
    rw [if_neg (by omega)] at hQ
    rw [i_pn, nI_clamp (by omega)]
    exact ⟨fun _ => ⟨vp_in_nI (by omega) (by omega), hQ⟩, fun h => absurd h (nI_ne0 (by omega) (by omega))⟩
theorem hc_le (kd dn : Nat → Int32) (C : Nat) (hC : C ≤ 6) : ∀ j, hc_ kd dn C j ≤ 6 * j
  | 0 => Nat.le_refl _
  | j + 1 => by
    unfold hc_
    have := hc_le kd dn C hC j
    split <;> omega
theorem m_progress_4 {Q : Int32 → St → Prop} {ap C Kn : Nat} (ha : g_I w 19 = nI ap) (hap : ap ≤ 160) (hC : g_I w 1 = nI C) (hC6 : C ≤ 6) (hK : g_I w 0 = nI Kn) (hK12 : Kn ≤ 12) (hd : ∀ j, j < ap → ∃ e, g_A w 17 j = nI e ∧ e < 160) (hQ : Q (nI (min (hc_ (g_A w 0) (g_A w 17) C ap) Kn)) w) : ∀ d j, j + d = ap → w_M0_progress_4 K Q (d + 1) (nI (hc_ (g_A w 0) (g_A w 17) C j)) (nI j) w
  | 0, j, hj => by
    unfold w_M0_progress_4
    rw [ha, hK]
    have hj2 : j = ap := by omega
    subst hj2
    have hl := hc_le (g_A w 0) (g_A w 17) C hC6 j
    refine ⟨fun _ => ⟨fun h => ?_, fun h => ?_⟩, fun h => absurd (nI_le (by omega) (by omega)) h⟩
    · rw [nI_leI (by omega) (by omega)] at h
      rw [Nat.min_eq_right h] at hQ; exact hQ
    · rw [nI_leI (by omega) (by omega)] at h
      rw [Nat.min_eq_left (by omega)] at hQ; exact hQ
  | d + 1, j, hj => by
    unfold w_M0_progress_4
    obtain ⟨e, he, he2⟩ := hd j (by omega)
    have hl := hc_le (g_A w 0) (g_A w 17) C hC6 j
    have ih := m_progress_4 ha hap hC hC6 hK hK12 hd hQ d (j + 1) (by omega)
    have hu : hc_ (g_A w 0) (g_A w 17) C (j + 1) = hc_ (g_A w 0) (g_A w 17) C j + if g_A w 0 e = 6 then C else 0 := by
      show hc_ (g_A w 0) (g_A w 17) C j + (if g_A w 0 (g_A w 17 j).toNatClampNeg = 6 then C else 0) = _
      rw [he, nI_clamp (by omega)]
    rw [ha, nI_clamp (by omega), he, nI_clamp (by omega), nI_1, hC, nI_add]
    refine ⟨fun h => absurd h (nI_ge (by omega) (by omega)), fun _ => ⟨vp_in_nI (by omega) (by omega), vp_in_nI he2 (by omega), fun h => ?_, fun h => ?_⟩⟩
    · rw [hu, if_neg h, Nat.add_zero] at ih; exact ih
    · rw [hu, if_pos h] at ih; exact ih
theorem m_progress {Q : Int32 → St → Prop} {ap C Kn : Nat} (ha : g_I w 19 = nI ap) (hap : ap ≤ 160) (hC : g_I w 1 = nI C) (hC6 : C ≤ 6) (hK : g_I w 0 = nI Kn) (hK12 : Kn ≤ 12) (hd : ∀ j, j < ap → ∃ e, g_A w 17 j = nI e ∧ e < 160) (hQ : Q (nI (min (hc_ (g_A w 0) (g_A w 17) C ap) Kn)) w) : w_M0_progress K w Q :=
  ⟨_, m_progress_4 ha hap hC hC6 hK hK12 hd hQ ap 0 (by omega)⟩
end MS
