/-! the relation between the class's state z and the reference's state w -/
def RC (K C T : Nat) (le : Int32) (z w : St) : Prop := g_I z 0 = nI K ∧ g_I w 0 = nI K ∧ g_I z 5 = nI K ∧ g_I z 6 = nI C ∧ g_I w 1 = nI C ∧ g_I z 14 = nI C ∧ g_I z 7 = nI T ∧ g_I w 2 = nI T ∧ g_I z 15 = le ∧ g_I w 3 = le
def RS (K n o bg : Nat) (z w : St) : Prop :=
  (g_I z 19 = nI n ∧ g_I w 4 = nI n ∧ g_I z 1 = nI o ∧ g_I w 6 = nI o ∧ g_I z 2 = nI bg ∧ g_I w 5 = nI bg) ∧ (o ≤ 4 ∧ n + o ≤ 160 ∧ bg ≤ n + o) ∧
  (∀ j, j < o → g_A z 1 j = g_A w 8 j ∧ ∃ m, m < bg ∧ g_A w 8 j = nI m) ∧
  (∀ i j, i < o → j < o → g_A w 8 i = g_A w 8 j → i = j) ∧
  (∀ k, k < K → g_A z 0 k = g_A w 9 k ∧ (g_A w 9 k = -1 ∨ ∃ j, j < o ∧ g_A w 9 k = g_A w 8 j)) ∧
  (∀ k, k < K → g_L z 0 k = tbw w (nI k) n) ∧
  (∀ k, k < K → g_L z 1 k = (match lbw w (g_A w 9 k) (nI k) n with
    | some i => mdw w i
    | none => -2)) ∧
  (∀ j k, j < o → k < K → lbw w (g_A w 8 j) (nI k) n ≠ none → g_A w 9 k = g_A w 8 j)
def RLi (K bg : Nat) (z w : St) (i : Nat) : Prop := g_A z 7 i = g_A w 1 i ∧
    ((g_A z 6 i = 0 ∧ g_A z 8 i = g_A w 2 i ∧ (∃ k, k < K ∧ g_A w 2 i = nI k) ∧ (∃ m, m < bg ∧ g_A w 1 i = nI m) ∧ ((g_A w 0 i = 1 ∧ g_L z 4 i = rw_ (g_A w 3 i) (g_A w 4 i) ∧ (∃ g, g < 4 ∧ g_A w 3 i = nI g)) ∨ (g_A w 0 i = 2 ∧ g_L z 4 i = -1))) ∨
     (g_A z 6 i = 1 ∧ g_A w 0 i = 3) ∨ (g_A z 6 i = 2 ∧ g_A w 0 i = 4) ∨ (g_A z 6 i = 3 ∧ g_A w 0 i = 5) ∨
     (g_A z 6 i = 4 ∧ g_A w 0 i = 6 ∧ g_A z 8 i = g_A w 7 i ∧ ∃ lo cu fi, lo < i ∧ cu ≤ i ∧ fi < K ∧ g_A w 5 i = nI lo ∧ g_A w 6 i = nI cu ∧ g_A w 7 i = nI fi))
def RL (K n bg : Nat) (z w : St) : Prop := ∀ i, i < n → RLi K bg z w i
/-- an event of this epoch -/
def EV (K C nx n : Nat) (z w : St) (p : Nat) : Prop := p < n ∧ (g_A w 0 p = 3 ∨ (g_A w 0 p = 6 ∧ ∃ f lo cu, (lo < p ∧ cu ≤ p) ∧ g_A w 7 p = nI f ∧ g_A w 5 p = nI lo ∧ g_A w 6 p = nI cu ∧ f + C ≤ nx ∧ ∀ k, f ≤ k → k < f + C → k < K → g_L z 2 k = if skw w (nI k) lo p = true then -1 else tbw w (nI k) cu))
def RP (K C n nx pl q : Nat) (z w : St) : Prop :=
  (g_I z 8 = nI q ∧ g_I w 16 = nI q ∧ q ≤ 4) ∧
  (∀ i, i < q → g_A z 3 i = g_A w 10 i ∧ g_A z 4 i = g_A w 11 i ∧ g_A z 5 i = g_A w 12 i ∧ ∃ p, g_A w 10 i = nI p ∧ p < pl ∧ EV K C nx n z w p) ∧
  (∀ i j p p', i < j → j < q → g_A w 10 i = nI p → g_A w 10 j = nI p' → p < 200 → p' < 200 → p < p') ∧
  g_I z 9 = g_I w 17 ∧ (g_I z 10 = g_I w 8 ∧ (g_I w 8 = -1 ∨ ∃ f, f < n ∧ g_I w 8 = nI f)) ∧ g_I z 11 = g_I w 9 ∧
  (g_I z 12 = nI pl ∧ g_I w 10 = nI pl ∧ pl ≤ n) ∧ (g_I z 13 = nI nx ∧ g_I w 11 = nI nx ∧ nx ≤ 20)
def RH (K C n nx cz ep t : Nat) (z w : St) : Prop :=
  (g_I z 3 = nI cz ∧ g_I w 18 = nI cz ∧ cz ≤ 8) ∧ (g_I z 4 = nI ep ∧ g_I w 7 = nI ep ∧ ep ≤ t) ∧
  (∀ i, i < cz → (g_A z 2 (4 * i) = g_A w 13 i ∧ g_A z 2 (4 * i + 1) = g_A w 14 i ∧ g_A z 2 (4 * i + 2) = g_A w 15 i ∧ g_A z 2 (4 * i + 3) = g_A w 16 i) ∧ (∃ e, e ≤ ep ∧ g_A w 14 i = nI e) ∧ (g_A w 14 i = nI ep → ¬ g_A w 13 i = 2 → ∃ p, g_A w 15 i = nI p ∧ EV K C nx n z w p))
def RW (K C n nx pl ph lw cut hg : Nat) (z w : St) : Prop :=
  (g_I z 20 = nI ph ∧ g_I w 12 = nI ph ∧ ph ≤ 3) ∧
  (1 ≤ ph → nx < K ∧ g_I z 21 = nI lw ∧ g_I w 13 = nI lw ∧ lw < n ∧ (g_I w 8 = -1 ∨ ∃ f, f < lw ∧ g_I w 8 = nI f) ∧ (∀ k, k < K → g_A z 9 k = if skw w (nI k) lw pl = true then 1 else 0)) ∧
  (2 ≤ ph → g_I w 14 = nI cut ∧ lw < cut ∧ cut ≤ n ∧ ∀ k, nx ≤ k → k < nx + C → k < K → g_L z 5 k = tbw w (nI k) cut) ∧
  (ph = 3 → g_I z 22 = nI hg ∧ g_I w 15 = nI hg ∧ hg < n ∧ pl ≤ hg ∧ g_A w 0 hg = 6 ∧ g_A w 5 hg = nI lw ∧ g_A w 6 hg = nI cut ∧ g_A w 7 hg = nI nx)
def RK (K C n nx ap : Nat) (le : Int32) (z w : St) : Prop :=
  (g_I w 19 = nI ap ∧ ap ≤ 160 ∧ g_I z 17 = ps (g_A w 17) ap) ∧
  (∀ j, j < ap → ∃ d, g_A w 17 j = nI d ∧ j ≤ d ∧ d < n ∧ (g_A w 0 d = 3 ∨ g_A w 0 d = 6)) ∧
  (∀ k, k < K → g_L z 3 k = sdw w (nI C) le (nI k) ap) ∧
  g_I z 18 = nI (min (hc_ (g_A w 0) (g_A w 17) C ap) K) ∧
  (g_I z 16 = g_I w 20 ∧ (g_I w 20 = -1 ∨ ∃ s, g_I w 20 = nI s ∧ EV K C nx n z w s ∧ (ap = 0 ∨ ∃ d, g_A w 17 (ap - 1) = nI d ∧ d < s)))
def J (K C T : Nat) (le : Int32) (t : Nat) (z w : St) : Prop :=
  ∃ n o bg q pl nx cz ep ph lw cut hg ap : Nat, RC K C T le z w ∧ RS K n o bg z w ∧ RL K n bg z w ∧ RP K C n nx pl q z w ∧ RH K C n nx cz ep t z w ∧ RW K C n nx pl ph lw cut hg z w ∧ RK K C n nx ap le z w
theorem J_up {K C T : Nat} {le : Int32} {t : Nat} {z w : St} (h : J K C T le t z w) : J K C T le (t + 1) z w := by
  obtain ⟨n, o, bg, q, pl, nx, cz, ep, ph, lw, cut, hg, ap, h1, h2, h3, h4, ⟨h5, ⟨h6, h7, h8⟩, h9⟩, h10, h11⟩ := h
  exact ⟨n, o, bg, q, pl, nx, cz, ep, ph, lw, cut, hg, ap, h1, h2, h3, h4, ⟨h5, ⟨h6, h7, by omega⟩, h9⟩, h10, h11⟩
/-- the logs agree below n -/
def Ag (n : Nat) (w w' : St) : Prop := ∀ i, i < n → g_A w' 0 i = g_A w 0 i ∧ g_A w' 1 i = g_A w 1 i ∧ g_A w' 2 i = g_A w 2 i ∧ g_A w' 3 i = g_A w 3 i ∧ g_A w' 4 i = g_A w 4 i ∧ g_A w' 5 i = g_A w 5 i ∧ g_A w' 6 i = g_A w 6 i ∧ g_A w' 7 i = g_A w 7 i
theorem ag_lb {n : Nat} {w w' : St} (h : Ag n w w') {m k : Int32} {p : Nat} (hp : p ≤ n) : lbw w' m k p = lbw w m k p := lb_congr (fun i hi => ⟨(h i hi).1, (h i hi).2.1, (h i hi).2.2.1⟩) p hp
theorem ag_md {n : Nat} {w w' : St} (h : Ag n w w') {i : Nat} (hi : i < n) : mdw w' i = mdw w i := md_congr (h i hi).1 (h i hi).2.2.2.1 (h i hi).2.2.2.2.1
theorem ag_tb {n : Nat} {w w' : St} (h : Ag n w w') {k : Int32} {p : Nat} (hp : p ≤ n) : tbw w' k p = tbw w k p := tb_congr (fun i hi => ⟨(h i hi).1, (h i hi).2.1, (h i hi).2.2.1, (h i hi).2.2.2.1, (h i hi).2.2.2.2.1⟩) p hp
theorem ag_sk {n : Nat} {w w' : St} (h : Ag n w w') {k : Int32} {a p : Nat} (hp : p ≤ n) : skw w' k a p = skw w k a p := sk_congr (fun i hi => ⟨(h i hi).1, (h i hi).2.1, (h i hi).2.2.1⟩) p hp
/-- an applied entry -/
def okD (n : Nat) (w : St) (d : Nat) : Prop := d < n ∧ (g_A w 0 d = 3 ∨ (g_A w 0 d = 6 ∧ ∃ lo cu, lo < d ∧ cu ≤ d ∧ g_A w 5 d = nI lo ∧ g_A w 6 d = nI cu))
theorem ag_ev {n : Nat} {w w' : St} (h : Ag n w w') {C le k : Int32} {d : Nat} (hn : n ≤ 160) (hd : okD n w d) : evw w' C le d k = evw w C le d k := by
  obtain ⟨hd1, hd2⟩ := hd
  obtain ⟨a0, a1, a2, a3, a4, a5, a6, a7⟩ := h d hd1
  unfold evw ev
  rw [a0, a1, a5, a6, a7]
  rcases hd2 with h3 | ⟨h6, lo, cu, l1, l2, l3, l4⟩
  · rw [if_pos h3, if_pos h3]
    have e1 := ag_lb h (m := g_A w 1 d) (k := k) (p := d) (by omega)
    unfold lbw at e1
    rw [e1]
    cases hl : lb (g_A w 0) (g_A w 1) (g_A w 2) (g_A w 1 d) k d with
    | none => rfl
    | some i =>
      have e2 := ag_md h (i := i) (by have := (lb_lt hl).1; omega)
      unfold mdw at e2
      show some _ = some _
      rw [e2]
  · have h3 : ¬ g_A w 0 d = 3 := by rw [h6]; decide
    rw [if_neg h3, if_neg h3, l3, l4, nI_clamp (by omega), nI_clamp (by omega)]
    have e1 := ag_sk h (k := k) (a := lo) (p := d) (by omega)
    have e2 := ag_tb h (k := k) (p := cu) (by omega)
    unfold skw at e1
    unfold tbw at e2
    rw [e1, e2]
theorem ag_sd {n : Nat} {w w' : St} (h : Ag n w w') (h17 : g_A w' 17 = g_A w 17) {C le k : Int32} (hn : n ≤ 160) : ∀ ap, (∀ j, j < ap → ∃ d, g_A w 17 j = nI d ∧ okD n w d) → sdw w' C le k ap = sdw w C le k ap
  | 0, _ => rfl
  | ap + 1, hd => by
    have ih := ag_sd h h17 (C := C) (le := le) (k := k) hn ap (fun j hj => hd j (by omega))
    obtain ⟨d, e1, e2⟩ := hd ap (by omega)
    have e3 := ag_ev h (C := C) (le := le) (k := k) hn e2
    show (match evw w' C le (g_A w' 17 ap).toNatClampNeg k with
      | some r => r
      | none => sdw w' C le k ap) = (match evw w C le (g_A w 17 ap).toNatClampNeg k with
      | some r => r
      | none => sdw w C le k ap)
    rw [h17, e1, nI_clamp (by have := e2.1; omega), e3, ih]
theorem ag_hc {n : Nat} {w w' : St} (h : Ag n w w') (h17 : g_A w' 17 = g_A w 17) {C : Nat} (hn : n ≤ 160) : ∀ ap, (∀ j, j < ap → ∃ d, g_A w 17 j = nI d ∧ d < n) → hc_ (g_A w' 0) (g_A w' 17) C ap = hc_ (g_A w 0) (g_A w 17) C ap
  | 0, _ => rfl
  | ap + 1, hd => by
    have ih := ag_hc h h17 (C := C) hn ap (fun j hj => hd j (by omega))
    obtain ⟨d, e1, e2⟩ := hd ap (by omega)
    show hc_ (g_A w' 0) (g_A w' 17) C ap + (if g_A w' 0 (g_A w' 17 ap).toNatClampNeg = 6 then C else 0) = hc_ (g_A w 0) (g_A w 17) C ap + (if g_A w 0 (g_A w 17 ap).toNatClampNeg = 6 then C else 0)
    rw [ih, h17, e1, nI_clamp (by omega), (h d e2).1]
def SX (z z' : St) : Prop := g_I z' 3 = g_I z 3 ∧ g_I z' 4 = g_I z 4 ∧ g_I z' 5 = g_I z 5 ∧ g_I z' 6 = g_I z 6 ∧ g_I z' 7 = g_I z 7 ∧ g_I z' 8 = g_I z 8 ∧ g_I z' 9 = g_I z 9 ∧ g_I z' 10 = g_I z 10 ∧ g_I z' 11 = g_I z 11 ∧ g_I z' 12 = g_I z 12 ∧ g_I z' 13 = g_I z 13 ∧ g_I z' 14 = g_I z 14 ∧ g_I z' 15 = g_I z 15 ∧ g_I z' 16 = g_I z 16 ∧ g_I z' 17 = g_I z 17 ∧ g_I z' 18 = g_I z 18 ∧ g_I z' 20 = g_I z 20 ∧ g_I z' 21 = g_I z 21 ∧ g_I z' 22 = g_I z 22 ∧ g_I z' 0 = g_I z 0 ∧ g_A z' 2 = g_A z 2 ∧ g_A z' 3 = g_A z 3 ∧ g_A z' 4 = g_A z 4 ∧ g_A z' 5 = g_A z 5 ∧ g_A z' 9 = g_A z 9 ∧ g_L z' 2 = g_L z 2 ∧ g_L z' 3 = g_L z 3 ∧ g_L z' 5 = g_L z 5
def SM (w w' : St) : Prop := g_I w' 0 = g_I w 0 ∧ g_I w' 1 = g_I w 1 ∧ g_I w' 2 = g_I w 2 ∧ g_I w' 3 = g_I w 3 ∧ g_I w' 7 = g_I w 7 ∧ g_I w' 8 = g_I w 8 ∧ g_I w' 9 = g_I w 9 ∧ g_I w' 10 = g_I w 10 ∧ g_I w' 11 = g_I w 11 ∧ g_I w' 12 = g_I w 12 ∧ g_I w' 13 = g_I w 13 ∧ g_I w' 14 = g_I w 14 ∧ g_I w' 15 = g_I w 15 ∧ g_I w' 16 = g_I w 16 ∧ g_I w' 17 = g_I w 17 ∧ g_I w' 18 = g_I w 18 ∧ g_I w' 19 = g_I w 19 ∧ g_I w' 20 = g_I w 20 ∧ g_A w' 10 = g_A w 10 ∧ g_A w' 11 = g_A w 11 ∧ g_A w' 12 = g_A w 12 ∧ g_A w' 13 = g_A w 13 ∧ g_A w' 14 = g_A w 14 ∧ g_A w' 15 = g_A w 15 ∧ g_A w' 16 = g_A w 16 ∧ g_A w' 17 = g_A w 17
theorem rl_ok {K n bg : Nat} {z w : St} (hL : RL K n bg z w) {d : Nat} (hd : d < n) (h : g_A w 0 d = 3 ∨ g_A w 0 d = 6) : okD n w d := by
  refine ⟨hd, ?_⟩
  obtain ⟨-, h1⟩ := hL d hd
  rcases h with h | h
  · exact Or.inl h
  · rcases h1 with ⟨-, -, -, -, ⟨h2, -⟩ | ⟨h2, -⟩⟩ | ⟨-, h2⟩ | ⟨-, h2⟩ | ⟨-, h2⟩ | ⟨-, -, -, lo, cu, fi, b1, b2, -, b4, b5, -⟩
    · rw [h] at h2; exact absurd h2 (by decide)
    · rw [h] at h2; exact absurd h2 (by decide)
    · rw [h] at h2; exact absurd h2 (by decide)
    · rw [h] at h2; exact absurd h2 (by decide)
    · rw [h] at h2; exact absurd h2 (by decide)
    · exact Or.inr ⟨h, lo, cu, b1, b2, b4, b5⟩
theorem gr_EV {K C nx n n' : Nat} {z z' w w' : St} (hA : Ag n w w') (h2 : g_L z' 2 = g_L z 2) (hn : n ≤ n') {p : Nat} (h : EV K C nx n z w p) : EV K C nx n' z' w' p := by
  obtain ⟨hp, h⟩ := h
  obtain ⟨a0, a1, a2, a3, a4, a5, a6, a7⟩ := hA p hp
  refine ⟨by omega, ?_⟩
  rw [a0, a5, a6, a7, h2]
  rcases h with h | ⟨h6, f, lo, cu, ⟨b1, b2⟩, e1, e2, e3, e4, e5⟩
  · exact Or.inl h
  · refine Or.inr ⟨h6, f, lo, cu, ⟨b1, b2⟩, e1, e2, e3, e4, fun k k1 k2 k3 => ?_⟩
    rw [ag_sk hA (by omega), ag_tb hA (by omega)]
    exact e5 k k1 k2 k3
theorem gr_P {K C n n' nx pl q : Nat} {z z' w w' : St} (hX : SX z z') (hM : SM w w') (hA : Ag n w w') (hn : n ≤ n') (h : RP K C n nx pl q z w) : RP K C n' nx pl q z' w' := by
  obtain ⟨i3, i4, i5, i6, i7, i8, i9, i10, i11, i12, i13, i14, i15, i16, i17, i18, i20, i21, i22, i0, x2, x3, x4, x5, x9, l2, l3, l5⟩ := hX
  obtain ⟨j0, j1, j2, j3, j7, j8, j9, j10, j11, j12, j13, j14, j15, j16, j17, j18, j19, j20, y10, y11, y12, y13, y14, y15, y16, y17⟩ := hM
  obtain ⟨⟨a1, a2, a3⟩, b, c, d, ⟨e1, e2⟩, f, ⟨g1, g2, g3⟩, hh⟩ := h
  unfold RP
  rw [i8, j16, x3, y10, x4, y11, x5, y12, i9, j17, i10, j8, i11, j9, i12, j10, i13, j11]
  refine ⟨⟨a1, a2, a3⟩, fun i hi => ?_, c, d, ⟨e1, e2.imp id (fun ⟨f, h1, h2⟩ => ⟨f, by omega, h2⟩)⟩, f, ⟨g1, g2, by omega⟩, hh⟩
  obtain ⟨b1, b2, b3, p, b4, b5, b6⟩ := b i hi
  exact ⟨b1, b2, b3, p, b4, b5, gr_EV hA l2 hn b6⟩
theorem gr_H {K C n n' nx cz ep t : Nat} {z z' w w' : St} (hX : SX z z') (hM : SM w w') (hA : Ag n w w') (hn : n ≤ n') (h : RH K C n nx cz ep t z w) : RH K C n' nx cz ep t z' w' := by
  obtain ⟨i3, i4, i5, i6, i7, i8, i9, i10, i11, i12, i13, i14, i15, i16, i17, i18, i20, i21, i22, i0, x2, x3, x4, x5, x9, l2, l3, l5⟩ := hX
  obtain ⟨j0, j1, j2, j3, j7, j8, j9, j10, j11, j12, j13, j14, j15, j16, j17, j18, j19, j20, y10, y11, y12, y13, y14, y15, y16, y17⟩ := hM
  obtain ⟨a, b, c⟩ := h
  unfold RH
  rw [i3, j18, i4, j7, x2, y13, y14, y15, y16]
  refine ⟨a, b, fun i hi => ?_⟩
  obtain ⟨c1, c2, c3⟩ := c i hi
  exact ⟨c1, c2, fun h1 h2 => (c3 h1 h2).imp (fun p hp => ⟨hp.1, gr_EV hA l2 hn hp.2⟩)⟩
theorem gr_W {K C n n' nx pl ph lw cut hg : Nat} {z z' w w' : St} (hX : SX z z') (hM : SM w w') (hA : Ag n w w') (hn : n ≤ n') (hpl : pl ≤ n) (h : RW K C n nx pl ph lw cut hg z w) : RW K C n' nx pl ph lw cut hg z' w' := by
  obtain ⟨i3, i4, i5, i6, i7, i8, i9, i10, i11, i12, i13, i14, i15, i16, i17, i18, i20, i21, i22, i0, x2, x3, x4, x5, x9, l2, l3, l5⟩ := hX
  obtain ⟨j0, j1, j2, j3, j7, j8, j9, j10, j11, j12, j13, j14, j15, j16, j17, j18, j19, j20, y10, y11, y12, y13, y14, y15, y16, y17⟩ := hM
  obtain ⟨a, b, c, d⟩ := h
  unfold RW
  rw [i20, j12, i21, j13, j8, x9, j14, l5, i22, j15]
  refine ⟨a, fun h1 => ?_, fun h1 => ?_, fun h1 => ?_⟩
  · obtain ⟨b1, b2, b3, b4, b5, b6⟩ := b h1
    exact ⟨b1, b2, b3, by omega, b5, fun k hk => by rw [ag_sk hA hpl]; exact b6 k hk⟩
  · obtain ⟨c1, c2, c3, c4⟩ := c h1
    exact ⟨c1, c2, by omega, fun k k1 k2 k3 => by rw [ag_tb hA c3]; exact c4 k k1 k2 k3⟩
  · obtain ⟨d1, d2, d3, d4, d5, d6, d7, d8⟩ := d h1
    obtain ⟨a0, -, -, -, -, a5, a6, a7⟩ := hA hg d3
    exact ⟨d1, d2, by omega, d4, by rw [a0]; exact d5, by rw [a5]; exact d6, by rw [a6]; exact d7, by rw [a7]; exact d8⟩
theorem gr_K {K C n n' nx ap bg : Nat} {le : Int32} {z z' w w' : St} (hX : SX z z') (hM : SM w w') (hA : Ag n w w') (hn : n ≤ n') (hn2 : n ≤ 160) (hL : RL K n bg z w) (h : RK K C n nx ap le z w) : RK K C n' nx ap le z' w' := by
  obtain ⟨i3, i4, i5, i6, i7, i8, i9, i10, i11, i12, i13, i14, i15, i16, i17, i18, i20, i21, i22, i0, x2, x3, x4, x5, x9, l2, l3, l5⟩ := hX
  obtain ⟨j0, j1, j2, j3, j7, j8, j9, j10, j11, j12, j13, j14, j15, j16, j17, j18, j19, j20, y10, y11, y12, y13, y14, y15, y16, y17⟩ := hM
  obtain ⟨⟨a1, a2, a3⟩, b, c, d, ⟨e1, e2⟩⟩ := h
  have hd : ∀ j, j < ap → ∃ d, g_A w 17 j = nI d ∧ okD n w d := fun j hj => by
    obtain ⟨d, b1, -, b3, b4⟩ := b j hj
    exact ⟨d, b1, rl_ok hL b3 b4⟩
  unfold RK
  rw [j19, i17, l3, i18, i16, j20, ag_hc hA y17 hn2 ap (fun j hj => (hd j hj).imp (fun _ h => ⟨h.1, h.2.1⟩))]
  refine ⟨⟨a1, a2, by rw [y17]; exact a3⟩, fun j hj => ?_, fun k hk => ?_, d, e1, ?_⟩
  · obtain ⟨d, b1, b2, b3, b4⟩ := b j hj
    exact ⟨d, by rw [y17]; exact b1, b2, by omega, by rw [(hA d b3).1]; exact b4⟩
  · rw [ag_sd hA y17 hn2 ap hd]; exact c k hk
  · rcases e2 with e2 | ⟨s, s1, s2, s3⟩
    · exact Or.inl e2
    · exact Or.inr ⟨s, s1, gr_EV hA l2 hn s2, by rw [y17]; exact s3⟩
theorem gr_C {K C T : Nat} {le : Int32} {z z' w w' : St} (hX : SX z z') (hM : SM w w') (h : RC K C T le z w) : RC K C T le z' w' := by
  obtain ⟨i3, i4, i5, i6, i7, i8, i9, i10, i11, i12, i13, i14, i15, i16, i17, i18, i20, i21, i22, i0, x2, x3, x4, x5, x9, l2, l3, l5⟩ := hX
  obtain ⟨j0, j1, j2, j3, j7, j8, j9, j10, j11, j12, j13, j14, j15, j16, j17, j18, j19, j20, y10, y11, y12, y13, y14, y15, y16, y17⟩ := hM
  unfold RC
  rw [i0, j0, i5, i6, j1, i14, i7, j2, i15, j3]
  exact h
