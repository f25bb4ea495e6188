/-- a clamped number -/
theorem cm_cw (m x : Int32) (hm : 1 ≤ m) : cw_ m x = cm_ m x := by
  unfold cw_ cm_
  simp only [Int32.lt_iff_toInt_lt, Int32.le_iff_toInt_le] at *
  have e1 : (1 : Int32).toInt = 1 := by decide
  repeat' split
  all_goals first | rfl | (exfalso; omega) | (rw [← Int32.toInt_inj]; omega)
theorem cm_nI (M : Nat) (x : Int32) (hM : 1 ≤ M) (hM2 : M ≤ 100) : ∃ C : Nat, 1 ≤ C ∧ C ≤ M ∧ cm_ (nI M) x = nI C := by
  unfold cm_
  have eM := nI_toInt (n := M) (by omega)
  by_cases h1 : x < 1
  · rw [if_pos h1]; exact ⟨1, by omega, hM, rfl⟩
  · rw [if_neg h1]
    by_cases h2 : nI M < x
    · rw [if_pos h2]; exact ⟨M, hM, Nat.le_refl _, rfl⟩
    · rw [if_neg h2]
      have h3 : ¬ x < 0 := by
        rw [Int32.lt_iff_toInt_lt] at h1 ⊢
        have e1 : (1 : Int32).toInt = 1 := by decide
        have e0 : (0 : Int32).toInt = 0 := by decide
        omega
      obtain ⟨j, hj, rfl⟩ := nI_of h3
      refine ⟨j, ?_, ?_, rfl⟩
      · rcases Nat.eq_zero_or_pos j with h | h
        · subst h; exact absurd (show nI 0 < 1 by decide) h1
        · exact h
      · exact Nat.le_of_not_lt (fun h => h2 (nI_lt h (by omega)))
section CE
variable {l : Launch} {cA : Nat → ClassId} {D : va_G}
set_option maxHeartbeats 4000000 in
set_option maxRecDepth 100000 in
theorem c_L0_cell (l : Launch) (cA : Nat → ClassId) (D : va_G) (a : Nat → Nat) (sb N : Nat) (xs : Nat → Int32) (k : Nat) (hN : N ≤ 2564) (hk : k < 10) (z : St) : ∀ sz, Met l y_L0_cell (.code y_L0_cell b_L0_cell 2 (some .int) :: TS) { frames := 0, cells := 0, slots := 0, locals := 0 } (va_Pc [.ref sb, .int (nI k)] (fun U => U.heap.size = sz ∧ Wd NS CL D (tyX cA) (fun _ => []) (fun _ => True) z U ∧ va_X sb N xs U U.heap ∧ sb < sz)) (Qg NS CL D (tyX cA) (fun _ => []) (AX 0 a sz) mkI (fun r _ => r = if k < N then xs k else 0)) 0 0 (AX 0 a sz) := by
  intro sz
  refine Met.ofW (cc := b_L0_cell) (maxL := 2) (ret := some .int) (by decide) rfl ?_
  intro p e s m args below meth c s₁ B hml hv
  obtain ⟨rfl, hsz, ⟨hP, hK, hD, hNw⟩, hX, hbl⟩ := hv
  subst hsz
  have hts := atoms_spec (ws := .code y_L0_cell b_L0_cell 2 (some .int) :: TS) B.pre
  have hc : Cx TS NS CL D (tyX cA) p s m ([Value.ref sb, .int (nI k)] : List Value).toArray meth c b_L0_cell 2 y_L0_cell.cls := ⟨B.exec, B.bytes, hml, findClass_of_methodNamed B.named, fun w hw => hts w (List.mem_cons_of_mem _ hw), hNw, hK, B.notSynchronized⟩
  have hr := B.returns
  rw [lg_entry_eq]
  have hbA : ¬ AX 0 a s.heap.size sb := fun h => by
    rcases h with ⟨k, hk, -⟩ | h
    · omega
    · omega
  suffices hV : V CL p l e { frames := 0, cells := 0, slots := 0, locals := 0 } s m ([Value.ref sb, .int (nI k)] : List Value).toArray below meth c 2 D (AX 0 a s.heap.size) 0 0 (MQ below (Qg NS CL D (tyX cA) (fun _ => []) (AX 0 a s.heap.size) mkI (fun r _ => r = if k < N then xs k else 0)) ([Value.ref sb, .int (nI k)] : List Value).toArray s 0 0 (AX 0 a s.heap.size)) ([] : va_W) 0 [(0, .ref sb), (1, .int (nI k))] [] from
    hV _ _ _ hP ⟨fun i j p q h => by simp at h, fun k q h => by simp at h⟩ va_S.rf (lv_entry [.ref sb, .int (nI k)] (Nat.le_of_ble_eq_true rfl))
  refine V_iload_n hc d_L0_cell_0 rfl 1 rfl ?_
  refine V_aload_n hc d_L0_cell_1 rfl 0 rfl ?_
  refine V_slen hc hX hbl hbA d_L0_cell_2 ?_
  refine V_icmp_ge (tgt := 12) hc d_L0_cell_3 rfl (fun h => ?_) (fun h => ?_)
  · have hk2 : ¬ k < N := fun h2 => absurd h (nI_ge h2 (by omega))
    refine V_iconst (v := 0) hc d_L0_cell_12 (by decide) ?_
    exact V_iret (WF := fun _ => []) (z := z) hc NS_nest hr (show (0 : Int32) = if k < N then xs k else 0 from by rw [if_neg hk2]) d_L0_cell_13
  · have hk2 : k < N := Nat.lt_of_not_le (fun h2 => h (nI_le h2 (by omega)))
    refine V_aload_n hc d_L0_cell_6 rfl 0 rfl ?_
    refine V_iload_n hc d_L0_cell_7 rfl 1 rfl ?_
    refine V_sld (x := xs k) hc hX hbl hbA (vp_in_nI hk2 (by omega)) (congrArg xs (nI_clamp (by omega))) d_L0_cell_8 ?_
    refine V_goto (tgt := 13) hc d_L0_cell_9 rfl ?_
    exact V_iret (WF := fun _ => []) (z := z) hc NS_nest hr (show xs k = if k < N then xs k else 0 from by rw [if_pos hk2]) d_L0_cell_13
set_option maxHeartbeats 4000000 in
set_option maxRecDepth 100000 in
theorem V_cell {p : Program} {e : Env} {s : State} {m : MethodId} {below : List Frame} {meth : Method} {c : Code} {sb N : Nat} {xs : Nat → Int32} (hN : N ≤ 2564) (hc : Cx TS NS CL D (tyX cA) p s m #[Value.ref sb] meth c code 4 "ChangeFeedLaw") (hX : va_X sb N xs s s.heap) (hbl : sb < s.heap.size) {X : va_W} {pc : Nat} {L : List (Nat × Value)} {st : List Value} {cells slots : Nat} {Q : State → Prop} (k : Nat) (hk : k < 10) {v : Int32} (hv : v = nI k) (hroom : (st.map fun v => v.category).sum ≤ 8) (hce : cells ≤ 600000) (hsl : slots ≤ 7302250) (hdg : decode code pc = .ok (.invokestatic 9, 3))
    (kk : V CL p l e room_1 s m #[Value.ref sb] below meth c 4 D (fun q => s.heap.size ≤ q) cells slots Q X (pc + 3) L (.int (if k < N then xs k else 0) :: st)) : V CL p l e room_1 s m #[Value.ref sb] below meth c 4 D (fun q => s.heap.size ≤ q) cells slots Q X pc L (.int v :: .ref sb :: st) := by
  subst hv
  intro H locs ls hP hD hS hL
  have hbA : ¬ s.heap.size ≤ sb := Nat.not_le.mpr hbl
  have hXH : va_X sb N xs s H := hX.kept (hS.2.1 sb hbl hbA)
  refine V_backS (a := fun _ => 0) (NS := NS) (tys := tyX cA) (mk := mkI) (Qr := fun r _ => r = if k < N then xs k else 0) (va_runS (g := F0 m pc ls (([Value.ref sb, .int (nI k)] : List Value).reverse ++ st)) (rest := st) (As := [.ref sb, .int (nI k)]) ⟨hc.1, hc.2.1, hc.2.2.1, hc.2.2.2.1, hc.2.2.2.2.1⟩ (c_L0_cell l cA D (fun _ => 0) sb N xs k hN hk (fun _ => 0, fun _ _ => 0, fun _ _ => 0) H.size) ⟨callB_of 2 hc.2.2.2.2.1 (good_of TS_good k_578) rfl rfl rfl (hc.2.2.2.2.1 _ k_0) (hc.2.2.2.2.1 _ k_576) q_L0_cell (by decide), hc.2.2.2.2.1 _ k_577⟩ ⟨?_, ?_⟩ rfl rfl hL.1 rfl (lv_room hroom) hdg ⟨hce, hsl⟩) (fun _ h => h) hP hD hS hL ?_
  · intro a U g mk q
    obtain ⟨q0, q1, ⟨qP, qK, qD, qN⟩, qX, qb⟩ := q
    exact ⟨q0, q1, ⟨qP, va_K.moved (u := U) (U := U.calling g mk a) (Vm.Alike.refl U.vm) qK, qD, nw_same NS_nest (rfl : U.vm = (U.calling g mk a).vm) qN⟩, va_X.moved (u := U) (U := U.calling g mk a) (Vm.Alike.refl U.vm) qX, qb⟩
  · intro U hU hW
    exact ⟨rfl, by rw [hU], ⟨fun k q h => by simp at h, va_K.moved hW.alike hc.2.2.2.2.2.2.1, ⟨fun i j p q h => by simp at h, fun k q h => by simp at h⟩, nw_warm NS_nest hW hc.2.2.2.2.2.1⟩, by rw [hU]; exact va_X.moved hW.alike hXH, Nat.lt_of_lt_of_le hbl hS.1⟩
  · intro r u hr
    subst hr
    exact kk
end CE
/-- what the pure part gives -/
def PureSim : Prop := ∀ (K C T : Nat) (le : Int32), 1 ≤ K → K ≤ 12 → 1 ≤ C → C ≤ 6 → 1 ≤ T → T ≤ 20 → ∃ J : Nat → St → St → Prop, Sim K J ∧ ∀ z w, InitX K (nI C) (nI T) le z → InitM (nI K) (nI C) (nI T) le w → J 0 z w
set_option maxHeartbeats 4000000 in
set_option maxRecDepth 100000 in
theorem whole_open (hpure : PureSim) {p : Program} {e : Env} {s : State} {m : MethodId} {below : List Frame} {meth : Method} {c : Code} (l : Launch) {b L : Nat} {xs : Nat → Int32} (hL : L ≤ 2564) (C0 : lw_At p s m meth c b L xs) : W p l e room_1 s m #[Value.ref b] below meth c s.heap [] 0 0 (lw_Z below #[Value.ref b] s) (entryFrame m ([Value.ref b] : List Value).toArray 4) := by
  obtain ⟨hx, hb, hr, hml, hown, hts, hX, hbl, hlk, hgv⟩ := C0
  have hT : ∀ w ∈ TS, w.before #[Value.ref b] s = true := fun w h => hts w (List.mem_filter.mp h).1
  have hNw : ∀ w ∈ NS, va_Nw w s := fun w h => by
    rcases NS_nest w h with ⟨a, i, b2, n, d, q, rfl⟩ | ⟨a, i, x, q, rfl⟩
    · exact va_Nw.of rfl (hts _ (List.mem_filter.mp h).1)
    · exact va_Nw.of rfl (hts _ (List.mem_filter.mp h).1)
  obtain ⟨d0, i0, hd0⟩ := u_known (C := R_X0) (T := F_X0) (N := 5) hT uin_X0 (hT _ k_13)
  obtain ⟨d1, i1, hd1⟩ := u_known (C := R_X1) (T := F_X1) (N := 7) hT uin_X1 (hT _ k_63)
  obtain ⟨d2, i2, hd2⟩ := u_known (C := R_X2) (T := F_X2) (N := 3) hT uin_X2 (hT _ k_96)
  obtain ⟨d3, i3, hd3⟩ := u_known (C := R_X3) (T := F_X3) (N := 17) hT uin_X3 (hT _ k_114)
  obtain ⟨d4, i4, hd4⟩ := u_known (C := R_X4) (T := F_X4) (N := 7) hT uin_X4 (hT _ k_199)
  obtain ⟨d5, i5, hd5⟩ := u_known (C := R_X5) (T := F_X5) (N := 5) hT uin_X5 (hT _ k_30)
  obtain ⟨d6, i6, hd6⟩ := u_known (C := R_X6) (T := F_X6) (N := 5) hT uin_X6 (hT _ k_120)
  obtain ⟨d7, i7, hd7⟩ := u_known (C := R_M0) (T := F_M0) (N := 39) hT uin_M0 (hT _ k_580)
  obtain ⟨a0, ha0⟩ := k_arr (ty := .int) (fun _ _ h => h) (hT _ k_60)
  obtain ⟨a1, ha1⟩ := k_arr (ty := .long) (fun _ _ h => h) (hT _ k_61)
  obtain ⟨a2, ha2⟩ := k_arr (ty := .boolean) (fun _ _ h => h) (hT _ k_143)
  have hK : va_K (fun k => ([d0, d1, d2, d3, d4, d5, d6, d7] : List ClassId).getD k 0, fun k => ([i0, i1, i2, i3, i4, i5, i6, i7] : List (Nat → Nat)).getD k (fun _ => 0)) CL (tyX (fun k => ([a0, a1, a2] : List ClassId).getD k 0)) s := by
    refine ⟨fun c q hq => ?_, fun k q hk => ?_⟩
    · have hc8 : c < 8 := (List.getElem?_eq_some_iff.mp hq).1
      rcases (show c = 0 ∨ c = 1 ∨ c = 2 ∨ c = 3 ∨ c = 4 ∨ c = 5 ∨ c = 6 ∨ c = 7 by omega) with rfl | rfl | rfl | rfl | rfl | rfl | rfl | rfl
      · cases hq; exact hd0
      · cases hq; exact hd1
      · cases hq; exact hd2
      · cases hq; exact hd3
      · cases hq; exact hd4
      · cases hq; exact hd5
      · cases hq; exact hd6
      · cases hq; exact hd7
    · have hc3 : k < 3 := (List.getElem?_eq_some_iff.mp hk).1
      rcases (show k = 0 ∨ k = 1 ∨ k = 2 by omega) with rfl | rfl | rfl
      · cases hk; exact ha0
      · cases hk; exact ha1
      · cases hk; exact ha2
  generalize (fun k => ([a0, a1, a2] : List ClassId).getD k 0) = cA at hK
  generalize ((fun k => ([d0, d1, d2, d3, d4, d5, d6, d7] : List ClassId).getD k 0, fun k => ([i0, i1, i2, i3, i4, i5, i6, i7] : List (Nat → Nat)).getD k (fun _ => 0)) : va_G) = D at hK
  have hc : Cx TS NS CL D (tyX cA) p s m #[Value.ref b] meth c code 4 "ChangeFeedLaw" := ⟨hx, hb, hml, hown, hT, hNw, hK, hlk⟩
  have hA : ∀ q : Nat, s.heap.size ≤ q → (fun q => s.heap.size ≤ q) q := fun _ h => h
  rw [lg_entry_eq]
  suffices hV : V CL p l e room_1 s m #[Value.ref b] below meth c 4 D (fun q => s.heap.size ≤ q) 0 0 (lw_Z below #[Value.ref b] s) ([] : va_W) 0 [(0, .ref b)] [] from
    hV _ _ _ (fun k q h => by simp at h) ⟨fun i j p q h => by simp at h, fun k q h => by simp at h⟩ va_S.rf (lv_entry [.ref b] (Nat.le_of_ble_eq_true rfl))
  obtain ⟨y0, e0⟩ : ∃ y : Int32, y = (if 0 < L then xs 0 else 0) := ⟨_, rfl⟩
  obtain ⟨y1, e1⟩ : ∃ y : Int32, y = (if 1 < L then xs 1 else 0) := ⟨_, rfl⟩
  obtain ⟨y2, e2⟩ : ∃ y : Int32, y = (if 2 < L then xs 2 else 0) := ⟨_, rfl⟩
  obtain ⟨y3, e3⟩ : ∃ y : Int32, y = (if 3 < L then xs 3 else 0) := ⟨_, rfl⟩
  obtain ⟨K, hK0, hK12, ek⟩ := cm_nI 12 y0 (by decide) (by decide)
  obtain ⟨C, hC0, hC6, ec⟩ := cm_nI 6 y1 (by decide) (by decide)
  obtain ⟨T, hT0, hT20, et⟩ := cm_nI 20 y2 (by decide) (by decide)
  obtain ⟨J, hsim, hinit⟩ := hpure K C T y3 hK0 hK12 hC0 hC6 hT0 hT20
  refine V_new (ci := 0) (fs := [.int 0, .null, .null, .null, .null]) hc uin_X0 t_X0 t_X0_ok k_12 k_13 k_1 hA rfl dv_X0 (by decide) (by decide) d_L0_law_0 (fun qx => ?_)
  refine V_dup hc d_L0_law_3 rfl ?_
  refine V_aload_n hc d_L0_law_4 rfl 0 rfl ?_
  refine V_iconst (v := 0) hc d_L0_law_5 (by decide) ?_
  refine V_cell hL hc hX hbl 0 (by decide) (by decide) (Nat.le_of_ble_eq_true rfl) (by decide) (by decide) d_L0_law_6 ?_
  refine V_aload_n hc d_L0_law_9 rfl 0 rfl ?_
  refine V_iconst (v := 1) hc d_L0_law_10 (by decide) ?_
  refine V_cell hL hc hX hbl 1 (by decide) (by decide) (Nat.le_of_ble_eq_true rfl) (by decide) (by decide) d_L0_law_11 ?_
  refine V_aload_n hc d_L0_law_14 rfl 0 rfl ?_
  refine V_iconst (v := 2) hc d_L0_law_15 (by decide) ?_
  refine V_cell hL hc hX hbl 2 (by decide) (by decide) (Nat.le_of_ble_eq_true rfl) (by decide) (by decide) d_L0_law_16 ?_
  refine V_aload_n hc d_L0_law_19 rfl 0 rfl ?_
  refine V_iconst (v := 3) hc d_L0_law_20 (by decide) ?_
  refine V_cell hL hc hX hbl 3 (by decide) (by decide) (Nat.le_of_ble_eq_true rfl) (by decide) (by decide) d_L0_law_21 ?_
  rw [← e0, ← e1, ← e2, ← e3]
  refine V_callKI (As := [.int y0, .int y1, .int y2, .int y3]) (st := [.ref qx]) hc TS_good NS_nest hA (c_X0_init l cA D qx K hK0 hK12 y0 y1 y2 y3 ((cm_cw 12 y0 (by decide)).trans ek)) [0] [] rfl (wr := []) rfl (by decide) (by decide) (by decide) k_14 k_1 k_16 rfl k_15 q_X0_init (by decide) (by decide) (by decide) rfl (Nat.le_of_ble_eq_true rfl) d_L0_law_24 (fun bx z hz => ?_)
  refine V_astore_n hc [(1, .ref qx), (0, .ref b)] d_L0_law_27 rfl (by decide) rfl ?_
  refine V_new (ci := 7) (fs := [.int 0, .int 0, .int 0, .int 0, .int 0, .null, .null, .null, .null, .null, .null, .null, .null, .int 0, .int 0, .null, .null, .int 0, .int 0, .int 0, .int 0, .int 0, .int 0, .int 0, .int 0, .int 0, .int 0, .null, .null, .null, .int 0, .int 0, .null, .null, .null, .null, .int 0, .null, .int 0]) hc uin_M0 t_M0 t_M0_ok k_579 k_580 k_10 hA rfl dv_M0 (by decide) (by decide) d_L0_law_28 (fun qm => ?_)
  refine V_dup hc d_L0_law_31 rfl ?_
  refine V_aload_n hc d_L0_law_32 rfl 1 rfl ?_
  refine V_iconst (v := 0) hc d_L0_law_33 (by decide) ?_
  refine V_cell hL hc hX hbl 0 (by decide) (by decide) (Nat.le_of_ble_eq_true rfl) (by decide) (by decide) d_L0_law_34 ?_
  refine V_aload_n hc d_L0_law_37 rfl 1 rfl ?_
  refine V_iconst (v := 1) hc d_L0_law_38 (by decide) ?_
  refine V_cell hL hc hX hbl 1 (by decide) (by decide) (Nat.le_of_ble_eq_true rfl) (by decide) (by decide) d_L0_law_39 ?_
  refine V_aload_n hc d_L0_law_42 rfl 1 rfl ?_
  refine V_iconst (v := 2) hc d_L0_law_43 (by decide) ?_
  refine V_cell hL hc hX hbl 2 (by decide) (by decide) (Nat.le_of_ble_eq_true rfl) (by decide) (by decide) d_L0_law_44 ?_
  refine V_aload_n hc d_L0_law_47 rfl 1 rfl ?_
  refine V_iconst (v := 3) hc d_L0_law_48 (by decide) ?_
  refine V_cell hL hc hX hbl 3 (by decide) (by decide) (Nat.le_of_ble_eq_true rfl) (by decide) (by decide) d_L0_law_49 ?_
  rw [← e0, ← e1, ← e2, ← e3]
  generalize hax : (fun k => if k = 0 then qx else bx k) = a
  have ha0 : qx = a 0 := by rw [← hax]; rfl
  rw [ha0]
  refine V_callKI (As := [.int y0, .int y1, .int y2, .int y3]) (st := [.ref qm]) hc TS_good NS_nest hA (c_M0_init l cA D qm K y0 y1 y2 y3) [23] [0, 1, 2, 3, 4, 5, 6, 7, 8, 9, 10, 11, 12, 13, 14, 15, 16, 17, 18, 19, 20, 21, 22] rfl (wr := WX K cA a z) rfl (by decide) (by decide) (by decide) k_581 k_10 k_583 rfl k_582 q_M0_init (by decide) (by decide) (by decide) rfl (Nat.le_of_ble_eq_true rfl) d_L0_law_52 (fun bm w hw => ?_)
  refine V_astore_n hc [(2, .ref qm), (1, .ref (a 0)), (0, .ref b)] d_L0_law_55 rfl (by decide) rfl ?_
  refine V_iconst (v := 4) hc d_L0_law_56 (by decide) ?_
  refine V_istore_n hc [(3, .int 4), (2, .ref qm), (1, .ref (a 0)), (0, .ref b)] d_L0_law_57 rfl (by decide) rfl ?_
  refine V_widen (k := 42) (n := 2440) (by decide) (by decide) ?_
  refine lw_loop l K cA D p e s m below meth c b L xs hL hc hX hbl a (fun k => if k = 0 then qm else bm k) hr J hsim (L + 6) 0 z w (by omega) (by omega) (hinit z w ?_ ?_)
  · rw [cm_cw 6 y1 (by decide), cm_cw 20 y2 (by decide)] at hz
    have ec' : cm_ 6 y1 = nI C := ec
    have et' : cm_ 20 y2 = nI T := et
    rw [ec', et'] at hz
    exact hz
  · have ek' : cm_ 12 y0 = nI K := ek
    have ec' : cm_ 6 y1 = nI C := ec
    have et' : cm_ 20 y2 = nI T := et
    rw [ek', ec', et'] at hw
    exact hw
