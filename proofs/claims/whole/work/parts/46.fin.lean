/-! the end of a transaction -/
def FI (K k : Nat) (x cm : Int32) (z zc : St) : Prop :=
  zc.1 = z.1 ∧ (∀ a, ¬ a = 0 → g_A zc a = g_A z a) ∧ (∀ a, ¬ a = 0 → ¬ a = 1 → g_L zc a = g_L z a) ∧ ∀ k', k' < K →
    (g_A zc 0 k' = if k' < k ∧ g_A z 0 k' = x then -1 else g_A z 0 k') ∧ (g_L zc 1 k' = if k' < k ∧ g_A z 0 k' = x then -2 else g_L z 1 k') ∧ (g_L zc 0 k' = if k' < k ∧ g_A z 0 k' = x ∧ ¬ cm = 0 ∧ ¬ g_L z 1 k' = -2 then g_L z 1 k' else g_L z 0 k')
def CI (js j o : Nat) (z zc : St) : Prop := (∀ i, ¬ i = 1 → g_I zc i = g_I z i) ∧ g_I zc 1 = nI (o - 1) ∧ (∀ a, ¬ a = 1 → g_A zc a = g_A z a) ∧ zc.2.2 = z.2.2 ∧ ∀ i, g_A zc 1 i = if js ≤ i ∧ i < j then g_A z 1 (i + 1) else g_A z 1 i
/-- z' is z behind finish(x, cm) -/
def Fin_ (K n o : Nat) (x cm : Int32) (z z' : St) : Prop := SX z z' ∧ (g_I z' 19 = nI (n + 1) ∧ g_I z' 1 = nI (o - 1) ∧ g_I z' 2 = g_I z 2) ∧
  (∀ i, i < n → g_A z' 6 i = g_A z 6 i ∧ g_A z' 7 i = g_A z 7 i ∧ g_A z' 8 i = g_A z 8 i ∧ g_L z' 4 i = g_L z 4 i) ∧ (g_A z' 6 n = (if cm = 0 then 2 else 1) ∧ g_A z' 7 n = x) ∧
  (∃ js, js < o ∧ g_A z 1 js = x ∧ (∀ i, i < js → ¬ g_A z 1 i = x) ∧ ∀ i, i < o - 1 → g_A z' 1 i = if i < js then g_A z 1 i else g_A z 1 (i + 1)) ∧
  ∀ k, k < K → (g_A z' 0 k = if g_A z 0 k = x then -1 else g_A z 0 k) ∧ (g_L z' 1 k = if g_A z 0 k = x then -2 else g_L z 1 k) ∧ (g_L z' 0 k = if g_A z 0 k = x ∧ ¬ cm = 0 ∧ ¬ g_L z 1 k = -2 then g_L z 1 k else g_L z 0 k)
section EN
variable {K C T : Nat} {le : Int32} {t : Nat} {z w : St}
theorem x_close_18 {Q : Unit → St → Prop} {o js : Nat} {zb : St} (ho : 1 ≤ o) (ho4 : o ≤ 4) (hj : js < o) (hQ : ∀ zc, CI js (o - 1) o zb zc → Q () zc) : ∀ d j zc, j + d = o - 1 → js ≤ j → CI js j o zb zc → w_X1_close_18 K Q (d + 1) (nI j) zc
  | 0, j, zc, hd, hj2, hc => by
    unfold w_X1_close_18
    rw [hc.2.1]
    have e : j = o - 1 := by omega
    subst e
    exact ⟨fun _ => hQ zc hc, fun h => absurd (nI_le (Nat.le_refl _) (by omega)) h⟩
  | d + 1, j, zc, hd, hj2, hc => by
    unfold w_X1_close_18
    rw [hc.2.1, nI_1, nI_clamp (by omega), nI_clamp (by omega)]
    refine ⟨fun h => absurd h (nI_ge (by omega) (by omega)), fun _ => ⟨vp_in_nI (by omega) (by omega), vp_in_nI (by omega) (by omega), ?_⟩⟩
    refine x_close_18 ho ho4 hj hQ d (j + 1) _ (by omega) (by omega) ?_
    obtain ⟨c1, c2, c3, c4, c5⟩ := hc
    refine ⟨c1, c2, fun a ha => ?_, c4, fun i => ?_⟩
    · show va_up zc.2.1 1 _ a = _
      rw [va_up_ne _ _ ha]; exact c3 a ha
    · show upd (g_A zc 1) j (g_A zc 1 (j + 1)) i = _
      have e0 : g_A zc 1 (j + 1) = g_A zb 1 (j + 1) := by rw [c5 (j + 1), if_neg (by omega)]
      rw [upd_at, e0]
      by_cases e : i = j
      · rw [if_pos e, if_pos (by omega), e]
      · rw [if_neg e, c5 i]
        by_cases e2 : js ≤ i ∧ i < j
        · rw [if_pos e2, if_pos (by omega)]
        · rw [if_neg e2, if_neg (by omega)]
theorem x_finish_2 {Q : Int32 → St → Prop} {n o bg : Nat} {x cm : Int32} (h19 : g_I z 19 = nI n) (h1 : g_I z 1 = nI o) (ho4 : o ≤ 4) (hn : n < 160) (hK : K ≤ 12) (hop : ∃ j, j < o ∧ g_A z 1 j = x) (hQ : ∀ z', Fin_ K n o x cm z z' → Q (nI n) z') : ∀ d k zc, k + d = K → FI K k x cm z zc → w_X1_finish_2 K Q (d + 1) x cm (nI k) zc
  | 0, k, zc, hd, hf => by
    unfold w_X1_finish_2
    have e : k = K := by omega
    subst e
    obtain ⟨f1, f2, f3, f4⟩ := hf
    have hI0 : ∀ i, g_I zc i = g_I z i := fun i => congrFun f1 i
    have hzc1 : g_A zc 1 = g_A z 1 := f2 1 (by decide)
    refine ⟨fun _ => ?_, fun h => absurd (nI_le (Nat.le_refl _) (by omega)) h⟩
    refine x_slotOf (o := o) ((hI0 1).trans h1) ho4 (fun js hjs e1 e2 => ?_) (fun h => by obtain ⟨j, j1, j2⟩ := hop; rw [hzc1] at h; exact absurd j2 (h j j1))
    rw [hzc1] at e1 e2
    unfold w_X1_close
    refine ⟨fun _ => ⟨_, x_close_18 (zb := zc) (o := o) (js := js) (by omega) ho4 hjs (fun zd hd => ?_) (o - 1 - js) js _ (by omega) (Nat.le_refl _) ?_⟩, fun h => absurd h (i_ne_m1 (by omega))⟩
    · obtain ⟨d1, d2, d3, d4, d5⟩ := hd
      have hI : ∀ i, ¬ i = 1 → g_I zd i = g_I z i := fun i hi => (d1 i hi).trans (hI0 i)
      have hAr : ∀ a, ¬ a = 0 → ¬ a = 1 → g_A zd a = g_A z a := fun a h0 h1 => (d3 a h1).trans (f2 a h0)
      have hLn : ∀ a, ¬ a = 0 → ¬ a = 1 → g_L zd a = g_L z a := fun a h0 h1 => (congrFun d4 a).trans (f3 a h0 h1)
      have key : ∀ (kd : Int32), kd = (if cm = 0 then 2 else 1) → Q (nI n) (zw zd n kd x (-1) (-1)) := by
        intro kd hkd
        refine hQ _ ⟨⟨hI 3 (by decide), hI 4 (by decide), hI 5 (by decide), hI 6 (by decide), hI 7 (by decide), hI 8 (by decide), hI 9 (by decide), hI 10 (by decide), hI 11 (by decide), hI 12 (by decide), hI 13 (by decide), hI 14 (by decide), hI 15 (by decide), hI 16 (by decide), hI 17 (by decide), hI 18 (by decide), hI 20 (by decide), hI 21 (by decide), hI 22 (by decide), hI 0 (by decide), hAr 2 (by decide) (by decide), hAr 3 (by decide) (by decide), hAr 4 (by decide) (by decide), hAr 5 (by decide) (by decide), hAr 9 (by decide) (by decide), hLn 2 (by decide) (by decide), hLn 3 (by decide) (by decide), hLn 5 (by decide) (by decide)⟩, ⟨rfl, d2, hI 2 (by decide)⟩, fun i hi => ⟨(upd_lt hi).trans (congrFun (hAr 6 (by decide) (by decide)) i), (upd_lt hi).trans (congrFun (hAr 7 (by decide) (by decide)) i), (upd_lt hi).trans (congrFun (hAr 8 (by decide) (by decide)) i), (updL_lt hi).trans (congrFun (hLn 4 (by decide) (by decide)) i)⟩, ⟨hkd ▸ pk_us, pk_us⟩, ⟨js, hjs, e1, e2, fun i hi => ?_⟩, fun k' hk' => ?_⟩
        · show g_A zd 1 i = _
          rw [d5 i, hzc1]
          by_cases e3 : i < js
          · rw [if_neg (by omega), if_pos e3]
          · rw [if_pos (by omega), if_neg e3]
        · show (g_A zd 0 k' = _) ∧ (g_L zd 1 k' = _) ∧ (g_L zd 0 k' = _)
          rw [d3 0 (by decide), show g_L zd 1 = g_L zc 1 from congrFun d4 1, show g_L zd 0 = g_L zc 0 from congrFun d4 0]
          obtain ⟨g1, g2, g3⟩ := f4 k' hk'
          simp only [hk', true_and] at g1 g2 g3
          exact ⟨g1, g2, g3⟩
      refine ⟨fun hc => ?_, fun hc => ?_⟩
      · exact x_write ((hI 19 (by decide)).trans h19) hn (key 2 (if_pos hc).symm)
      · exact x_write ((hI 19 (by decide)).trans h19) hn (key 1 (if_neg hc).symm)
    · refine ⟨fun i hi => ?_, ?_, fun a _ => rfl, rfl, fun i => ?_⟩
      · show (if i = 1 then _ else g_I zc i) = _
        rw [if_neg hi]
      · show g_I zc 1 - 1 = _
        rw [hI0 1, h1]
        obtain ⟨o', rfl⟩ : ∃ o', o = o' + 1 := ⟨o - 1, by omega⟩
        exact i_pn o'
      · rw [if_neg (by omega)]; rfl
  | d + 1, k, zc, hd, hf => by
    unfold w_X1_finish_2
    rw [nI_clamp (by omega), nI_1]
    have hin : vp_in (nI k) K := vp_in_nI (by omega) (by omega)
    obtain ⟨f1, f2, f3, f4⟩ := hf
    obtain ⟨g1, g2, g3⟩ := f4 k (by omega)
    rw [if_neg (by omega)] at g1 g2 g3
    have step : ∀ zn, FI K (k + 1) x cm z zn → w_X1_finish_2 K Q (d + 1) x cm (nI (k + 1)) zn := fun zn hz => x_finish_2 (bg := bg) h19 h1 ho4 hn hK hop hQ d (k + 1) zn (by omega) hz
    refine ⟨fun h => absurd h (nI_ge (show k < K by omega) (by omega)), fun _ => ⟨hin, fun h => step zc ?_, fun h => ?_⟩⟩
    · rw [g1] at h
      refine ⟨f1, f2, f3, fun k' hk' => ?_⟩
      obtain ⟨q1, q2, q3⟩ := f4 k' hk'
      by_cases e : k' = k
      · subst e
        rw [if_neg (fun hh => h hh.2), if_neg (fun hh => h hh.2), if_neg (fun hh => h hh.2.1)]
        exact ⟨g1, g2, g3⟩
      · have e2 : k' < k + 1 ↔ k' < k := by omega
        simp only [e2]
        exact ⟨q1, q2, q3⟩
    · rw [g1] at h
      have upd0 : ∀ (zn : St), zn.1 = zc.1 → (∀ a, ¬ a = 0 → g_A zn a = g_A zc a) → (∀ a, ¬ a = 0 → ¬ a = 1 → g_L zn a = g_L zc a) → g_A zn 0 = upd (g_A zc 0) k (-1) → g_L zn 1 = vp_updL (g_L zc 1) k (-2) → (g_L zn 0 = (if ¬ cm = 0 ∧ ¬ g_L z 1 k = -2 then vp_updL (g_L zc 0) k (g_L z 1 k) else g_L zc 0)) → FI K (k + 1) x cm z zn := by
        intro zn n1 n2 n3 n4 n5 n6
        refine ⟨n1.trans f1, fun a ha => (n2 a ha).trans (f2 a ha), fun a h0 h1 => (n3 a h0 h1).trans (f3 a h0 h1), fun k' hk' => ?_⟩
        obtain ⟨q1, q2, q3⟩ := f4 k' hk'
        rw [n4, n5, n6, upd_at, updL_at]
        by_cases e : k' = k
        · subst e
          have t1 : k' < k' + 1 ∧ g_A z 0 k' = x := ⟨by omega, h⟩
          rw [if_pos rfl, if_pos rfl, if_pos t1, if_pos t1]
          refine ⟨rfl, rfl, ?_⟩
          by_cases e3 : ¬ cm = 0 ∧ ¬ g_L z 1 k' = -2
          · rw [if_pos e3, if_pos ⟨by omega, h, e3⟩]; exact pk_uLs
          · rw [if_neg e3, if_neg (fun hh => e3 hh.2.2)]; exact g3
        · have e2 : k' < k + 1 ↔ k' < k := by omega
          rw [if_neg e, if_neg e]
          simp only [e2]
          refine ⟨q1, q2, ?_⟩
          by_cases e3 : ¬ cm = 0 ∧ ¬ g_L z 1 k = -2
          · rw [if_pos e3, pk_uLn e]; exact q3
          · rw [if_neg e3]; exact q3
      unfold w_X1_loosen
      rw [nI_clamp (by omega), lc_zero, g2]
      refine ⟨fun hc => ⟨hin, hin, step _ (upd0 _ rfl (fun a ha => va_up_ne _ _ ha) (fun a h0 h1 => va_up_ne _ _ h1) rfl rfl ?_)⟩, fun hc => ⟨hin, fun h2 => ⟨hin, hin, step _ (upd0 _ rfl (fun a ha => va_up_ne _ _ ha) (fun a h0 h1 => va_up_ne _ _ h1) rfl rfl ?_)⟩, fun h2 => ⟨hin, hin, hin, hin, step _ (upd0 _ rfl (fun a ha => va_up_ne _ _ ha) (fun a h0 h1 => ?_) rfl rfl ?_)⟩⟩⟩
      · rw [if_neg (fun hh => hh.1 hc)]; rfl
      · rw [if_neg (fun hh => hh.2 h2)]; rfl
      · exact (va_up_ne _ _ h1).trans (va_up_ne _ _ h0)
      · rw [if_pos ⟨hc, h2⟩]; rfl
theorem x_finish {Q : Int32 → St → Prop} {n o : Nat} {x cm : Int32} (h19 : g_I z 19 = nI n) (h1 : g_I z 1 = nI o) (ho4 : o ≤ 4) (hn : n < 160) (hK : K ≤ 12) (hop : ∃ j, j < o ∧ g_A z 1 j = x) (hQ : ∀ z', Fin_ K n o x cm z z' → Q (nI n) z') : w_X1_finish K x cm z Q :=
  ⟨_, x_finish_2 (bg := 0) h19 h1 ho4 hn hK hop hQ K 0 z (by omega) ⟨rfl, fun _ _ => rfl, fun _ _ _ => rfl, fun k' hk' => by rw [if_neg (by omega), if_neg (by omega), if_neg (by omega)]; exact ⟨rfl, rfl, rfl⟩⟩⟩
end EN
