/-! the pure part: numbers, the log's functions -/
theorem gI_sI (z : St) (k j : Nat) (v : Int32) : g_I (s_I z k v) j = if j = k then v else g_I z j := rfl
theorem gI_sA (z : St) (k j i : Nat) (v : Int32) : g_I (s_A z k j v) i = g_I z i := rfl
theorem gI_sL (z : St) (k j i : Nat) (v : Int64) : g_I (s_L z k j v) i = g_I z i := rfl
theorem gI_sF (z : St) (k i : Nat) (f : Nat → Int32) : g_I (s_F z k f) i = g_I z i := rfl
theorem gA_sI (z : St) (k i : Nat) (v : Int32) : g_A (s_I z k v) i = g_A z i := rfl
theorem gA_sA (z : St) (k j i : Nat) (v : Int32) : g_A (s_A z k j v) i = if i = k then upd (g_A z k) j v else g_A z i := rfl
theorem gA_sL (z : St) (k j i : Nat) (v : Int64) : g_A (s_L z k j v) i = g_A z i := rfl
theorem gA_sF (z : St) (k i : Nat) (f : Nat → Int32) : g_A (s_F z k f) i = if i = k then f else g_A z i := rfl
theorem gL_sI (z : St) (k i : Nat) (v : Int32) : g_L (s_I z k v) i = g_L z i := rfl
theorem gL_sA (z : St) (k j i : Nat) (v : Int32) : g_L (s_A z k j v) i = g_L z i := rfl
theorem gL_sL (z : St) (k j i : Nat) (v : Int64) : g_L (s_L z k j v) i = if i = k then vp_updL (g_L z k) j v else g_L z i := rfl
theorem gL_sF (z : St) (k i : Nat) (f : Nat → Int32) : g_L (s_F z k f) i = g_L z i := rfl
theorem upd_at (f : Nat → Int32) (k : Nat) (v : Int32) (j : Nat) : upd f k v j = if j = k then v else f j := rfl
theorem updL_at (f : Nat → Int64) (k : Nat) (v : Int64) (j : Nat) : vp_updL f k v j = if j = k then v else f j := rfl
-- numbers
theorem i_m1 (p : Nat) : nI p - 1 = nI p + (-1) := by
  rw [Int32.sub_eq_add_neg]
theorem i_neg : (nI 0 + (-1) : Int32) = -1 := by decide
theorem i_ne_m1 {n : Nat} (h : n < 2 ^ 31) : ¬ nI n = -1 := by
  intro e
  have h1 := congrArg Int32.toInt e
  rw [nI_toInt h] at h1
  have h2 : (-1 : Int32).toInt = -1 := by decide
  omega
theorem i_sub_toInt {x y : Int32} (hx : -1000000 ≤ x.toInt ∧ x.toInt ≤ 1000000) (hy : -1000000 ≤ y.toInt ∧ y.toInt ≤ 1000000) : (x - y).toInt = x.toInt - y.toInt := by
  rw [Int32.toInt_sub]
  exact Int.bmod_eq_of_le (by omega) (by omega)
theorem i_add_toInt {x y : Int32} (hx : -1000000 ≤ x.toInt ∧ x.toInt ≤ 1000000) (hy : -1000000 ≤ y.toInt ∧ y.toInt ≤ 1000000) : (x + y).toInt = x.toInt + y.toInt := by
  rw [Int32.toInt_add]
  exact Int.bmod_eq_of_le (by omega) (by omega)
theorem i_pn (n : Nat) : nI (n + 1) - 1 = nI n := nI_pred n
theorem nar0 : narrow .boolean (.int 0) = .int 0 := by decide
theorem nar1 : narrow .boolean (.int 1) = .int 1 := by decide
-- the log's functions: kinds kd, transactions wh, keys ky, groups gp, amounts am
def lb (kd wh ky : Nat → Int32) (m k : Int32) : Nat → Option Nat
  | 0 => none
  | i + 1 => if wh i = m ∧ ky i = k ∧ (kd i = 1 ∨ kd i = 2) then some i else lb kd wh ky m k i
def md (kd gp am : Nat → Int32) (i : Nat) : Int64 := if kd i = 1 then rw_ (gp i) (am i) else -1
def tb (kd wh ky gp am : Nat → Int32) (k : Int32) : Nat → Int64
  | 0 => row0 k
  | c + 1 => if kd c = 3 then (match lb kd wh ky (wh c) k c with
      | some i => md kd gp am i
      | none => tb kd wh ky gp am k c) else tb kd wh ky gp am k c
def sk (kd wh ky : Nat → Int32) (k : Int32) (a : Nat) : Nat → Bool
  | 0 => false
  | c + 1 => (decide (a < c) && decide (kd c = 3) && (lb kd wh ky (wh c) k c).isSome) || sk kd wh ky k a c
def kp (le : Int32) (r : Int64) : Int64 := if r < 0 then r else if le ≤ r.toInt32 then r else -1
def ev (kd wh ky gp am lo cu fi : Nat → Int32) (C le : Int32) (e : Nat) (k : Int32) : Option Int64 :=
  if kd e = 3 then (match lb kd wh ky (wh e) k e with
      | some i => some (kp le (md kd gp am i))
      | none => none)
  else if k < fi e then none else if fi e + C ≤ k then none else
    if sk kd wh ky k (lo e).toNatClampNeg e = true then none else
      if tb kd wh ky gp am k (cu e).toNatClampNeg < 0 then none else some (kp le (tb kd wh ky gp am k (cu e).toNatClampNeg))
def sd (kd wh ky gp am lo cu fi dn : Nat → Int32) (C le : Int32) (k : Int32) : Nat → Int64
  | 0 => -1
  | j + 1 => match ev kd wh ky gp am lo cu fi C le (dn j).toNatClampNeg k with
      | some r => r
      | none => sd kd wh ky gp am lo cu fi dn C le k j
def hc_ (kd dn : Nat → Int32) (C : Nat) : Nat → Nat
  | 0 => 0
  | j + 1 => hc_ kd dn C j + if kd (dn j).toNatClampNeg = 6 then C else 0
def ps (dn : Nat → Int32) (ap : Nat) : Int32 := if ap = 0 then -1 else dn (ap - 1)
abbrev lbw (w : St) : Int32 → Int32 → Nat → Option Nat := lb (g_A w 0) (g_A w 1) (g_A w 2)
abbrev mdw (w : St) : Nat → Int64 := md (g_A w 0) (g_A w 3) (g_A w 4)
abbrev tbw (w : St) : Int32 → Nat → Int64 := tb (g_A w 0) (g_A w 1) (g_A w 2) (g_A w 3) (g_A w 4)
abbrev skw (w : St) : Int32 → Nat → Nat → Bool := sk (g_A w 0) (g_A w 1) (g_A w 2)
abbrev evw (w : St) (C le : Int32) : Nat → Int32 → Option Int64 := ev (g_A w 0) (g_A w 1) (g_A w 2) (g_A w 3) (g_A w 4) (g_A w 5) (g_A w 6) (g_A w 7) C le
abbrev sdw (w : St) (C le : Int32) : Int32 → Nat → Int64 := sd (g_A w 0) (g_A w 1) (g_A w 2) (g_A w 3) (g_A w 4) (g_A w 5) (g_A w 6) (g_A w 7) (g_A w 17) C le
-- agreement below a place
theorem lb_lt {kd wh ky : Nat → Int32} {m k : Int32} : ∀ {p i : Nat}, lb kd wh ky m k p = some i → i < p ∧ wh i = m ∧ ky i = k ∧ (kd i = 1 ∨ kd i = 2)
  | 0, i, h => by simp [lb] at h
  | p + 1, i, h => by
    unfold lb at h
    split at h
    · cases h; exact ⟨Nat.lt_succ_self _, by assumption⟩
    · obtain ⟨h1, h2⟩ := lb_lt h; exact ⟨Nat.lt_succ_of_lt h1, h2⟩
theorem lb_none {kd wh ky : Nat → Int32} {m k : Int32} : ∀ {p : Nat}, lb kd wh ky m k p = none → ∀ i, i < p → ¬ (wh i = m ∧ ky i = k ∧ (kd i = 1 ∨ kd i = 2))
  | 0, h, i, hi => by omega
  | p + 1, h, i, hi => by
    unfold lb at h
    split at h
    · cases h
    · rcases Nat.lt_succ_iff_lt_or_eq.mp hi with h1 | h1
      · exact lb_none h i h1
      · subst h1; assumption
theorem lb_congr {kd wh ky kd' wh' ky' : Nat → Int32} {m k : Int32} {n : Nat} (h : ∀ i, i < n → kd' i = kd i ∧ wh' i = wh i ∧ ky' i = ky i) : ∀ p, p ≤ n → lb kd' wh' ky' m k p = lb kd wh ky m k p
  | 0, _ => rfl
  | p + 1, hp => by
    obtain ⟨h1, h2, h3⟩ := h p hp
    unfold lb
    rw [h1, h2, h3, lb_congr h p (by omega)]
theorem md_congr {kd gp am kd' gp' am' : Nat → Int32} {i : Nat} (h1 : kd' i = kd i) (h2 : gp' i = gp i) (h3 : am' i = am i) : md kd' gp' am' i = md kd gp am i := by
  unfold md; rw [h1, h2, h3]
theorem tb_congr {kd wh ky gp am kd' wh' ky' gp' am' : Nat → Int32} {k : Int32} {n : Nat} (h : ∀ i, i < n → kd' i = kd i ∧ wh' i = wh i ∧ ky' i = ky i ∧ gp' i = gp i ∧ am' i = am i) : ∀ p, p ≤ n → tb kd' wh' ky' gp' am' k p = tb kd wh ky gp am k p
  | 0, _ => rfl
  | p + 1, hp => by
    obtain ⟨h1, h2, h3, h4, h5⟩ := h p hp
    have hl := lb_congr (m := wh p) (k := k) (fun i hi => ⟨(h i hi).1, (h i hi).2.1, (h i hi).2.2.1⟩) p (by omega)
    unfold tb
    rw [h1, h2, hl, tb_congr h p (by omega)]
    split
    · split
      · rename_i i hi
        have hlt := (lb_lt hi).1
        obtain ⟨g1, -, -, g4, g5⟩ := h i (by omega)
        exact md_congr g1 g4 g5
      · rfl
    · rfl
theorem sk_congr {kd wh ky kd' wh' ky' : Nat → Int32} {k : Int32} {a n : Nat} (h : ∀ i, i < n → kd' i = kd i ∧ wh' i = wh i ∧ ky' i = ky i) : ∀ p, p ≤ n → sk kd' wh' ky' k a p = sk kd wh ky k a p
  | 0, _ => rfl
  | p + 1, hp => by
    obtain ⟨h1, h2, h3⟩ := h p hp
    have hl := lb_congr (m := wh p) (k := k) h p (by omega)
    unfold sk
    rw [h1, h2, hl, sk_congr h p (by omega)]
theorem sk_small {kd wh ky : Nat → Int32} {k : Int32} {a : Nat} : ∀ p, p ≤ a + 1 → sk kd wh ky k a p = false
  | 0, _ => rfl
  | p + 1, hp => by
    unfold sk
    rw [sk_small p (by omega)]
    have : ¬ a < p := by omega
    simp [this]
-- rows: no row, or a row that is not negative
theorem rw_nn {g a : Int32} (h : ∃ j, j < 4 ∧ g = nI j) : ¬ rw_ g a < 0 := by
  obtain ⟨j, hj, rfl⟩ := h
  unfold rw_
  rw [Int64.lt_iff_toInt_lt, Int64.toInt_zero]
  have hb : ∀ x : Int64, x.toBitVec.msb = false → ¬ x.toInt < 0 := by
    intro x hx
    rw [← Int64.toInt_toBitVec, BitVec.toInt_eq_msb_cond, hx]
    simp
  apply hb
  rcases (show j = 0 ∨ j = 1 ∨ j = 2 ∨ j = 3 by omega) with rfl | rfl | rfl | rfl
  all_goals
    rw [Int64.toBitVec_or, BitVec.msb_or]
    have h1 : (a.toInt64 &&& 4294967295).toBitVec.msb = false := by
      have h2 : (4294967295 : Int64).toBitVec.msb = false := by decide
      rw [Int64.toBitVec_and, BitVec.msb_and, h2, Bool.and_false]
    rw [h1]
    decide
