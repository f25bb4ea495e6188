theorem dv_X0 : ∀ j, j < 5 → defaultValue (t_X0 j) = vp_V [.int 0, .null, .null, .null, .null] j := by
  intro j hj
  rcases (show j = 0 ∨ j = 1 ∨ j = 2 ∨ j = 3 ∨ j = 4 by omega) with rfl | rfl | rfl | rfl | rfl <;> rfl
theorem dv_X1 : ∀ j, j < 7 → defaultValue (t_X1 j) = vp_V [.null, .null, .null, .null, .null, .int 0, .int 0] j := by
  intro j hj
  rcases (show j = 0 ∨ j = 1 ∨ j = 2 ∨ j = 3 ∨ j = 4 ∨ j = 5 ∨ j = 6 by omega) with rfl | rfl | rfl | rfl | rfl | rfl | rfl <;> rfl
theorem dv_X2 : ∀ j, j < 3 → defaultValue (t_X2 j) = vp_V [.null, .int 0, .int 0] j := by
  intro j hj
  rcases (show j = 0 ∨ j = 1 ∨ j = 2 by omega) with rfl | rfl | rfl <;> rfl
theorem dv_X3 : ∀ j, j < 17 → defaultValue (t_X3 j) = vp_V [.null, .null, .null, .int 0, .int 0, .int 0, .null, .null, .null, .null, .null, .int 0, .int 0, .int 0, .int 0, .int 0, .int 0] j := by
  intro j hj
  rcases (show j = 0 ∨ j = 1 ∨ j = 2 ∨ j = 3 ∨ j = 4 ∨ j = 5 ∨ j = 6 ∨ j = 7 ∨ j = 8 ∨ j = 9 ∨ j = 10 ∨ j = 11 ∨ j = 12 ∨ j = 13 ∨ j = 14 ∨ j = 15 ∨ j = 16 by omega) with rfl | rfl | rfl | rfl | rfl | rfl | rfl | rfl | rfl | rfl | rfl | rfl | rfl | rfl | rfl | rfl | rfl <;> rfl
theorem dv_X4 : ∀ j, j < 7 → defaultValue (t_X4 j) = vp_V [.null, .int 0, .int 0, .null, .int 0, .int 0, .int 0] j := by
  intro j hj
  rcases (show j = 0 ∨ j = 1 ∨ j = 2 ∨ j = 3 ∨ j = 4 ∨ j = 5 ∨ j = 6 by omega) with rfl | rfl | rfl | rfl | rfl | rfl | rfl <;> rfl
theorem dv_X5 : ∀ j, j < 5 → defaultValue (t_X5 j) = vp_V [.null, .null, .null, .null, .int 0] j := by
  intro j hj
  rcases (show j = 0 ∨ j = 1 ∨ j = 2 ∨ j = 3 ∨ j = 4 by omega) with rfl | rfl | rfl | rfl | rfl <;> rfl
theorem dv_X6 : ∀ j, j < 5 → defaultValue (t_X6 j) = vp_V [.null, .null, .int 0, .int 0, .int 0] j := by
  intro j hj
  rcases (show j = 0 ∨ j = 1 ∨ j = 2 ∨ j = 3 ∨ j = 4 by omega) with rfl | rfl | rfl | rfl | rfl <;> rfl
theorem dv_M0 : ∀ j, j < 39 → defaultValue (t_M0 j) = vp_V [.int 0, .int 0, .int 0, .int 0, .int 0, .null, .null, .null, .null, .null, .null, .null, .null, .int 0, .int 0, .null, .null, .int 0, .int 0, .int 0, .int 0, .int 0, .int 0, .int 0, .int 0, .int 0, .int 0, .null, .null, .null, .int 0, .int 0, .null, .null, .null, .null, .int 0, .null, .int 0] j := by
  intro j hj
  rcases (show j = 0 ∨ j = 1 ∨ j = 2 ∨ j = 3 ∨ j = 4 ∨ j = 5 ∨ j = 6 ∨ j = 7 ∨ j = 8 ∨ j = 9 ∨ j = 10 ∨ j = 11 ∨ j = 12 ∨ j = 13 ∨ j = 14 ∨ j = 15 ∨ j = 16 ∨ j = 17 ∨ j = 18 ∨ j = 19 ∨ j = 20 ∨ j = 21 ∨ j = 22 ∨ j = 23 ∨ j = 24 ∨ j = 25 ∨ j = 26 ∨ j = 27 ∨ j = 28 ∨ j = 29 ∨ j = 30 ∨ j = 31 ∨ j = 32 ∨ j = 33 ∨ j = 34 ∨ j = 35 ∨ j = 36 ∨ j = 37 ∨ j = 38 by omega) with rfl | rfl | rfl | rfl | rfl | rfl | rfl | rfl | rfl | rfl | rfl | rfl | rfl | rfl | rfl | rfl | rfl | rfl | rfl | rfl | rfl | rfl | rfl | rfl | rfl | rfl | rfl | rfl | rfl | rfl | rfl | rfl | rfl | rfl | rfl | rfl | rfl | rfl | rfl <;> rfl
def rw_ (g a : Int32) : Int64 := (g.toInt64 <<< ((32 : Int32).toInt64 &&& 63)) ||| (a.toInt64 &&& 4294967295)
def row0 (k : Int32) : Int64 := rw_ (k - k / 4 * 4) (10 * k)
theorem V_perm {cl : List vw_C} {p : Program} {l : Launch} {e : Env} {R : Room} {s : State} {m : MethodId} {args : Array Value} {below : List Frame} {meth : Method} {c : Code} {nL : Nat} {D : va_G} {A : Nat → Prop} {cells slots : Nat} {Q : State → Prop} {X : va_W} {pc : Nat} {L : List (Nat × Value)} {st : List Value} (is : List Nat) (X' : va_W) (h : is.map (fun i => X[i]?) = X'.map some) (hn : va_nd is = true) (kk : V cl p l e R s m args below meth c nL D A cells slots Q X' pc L st) : V cl p l e R s m args below meth c nL D A cells slots Q X pc L st := fun H locs ls hP hD hS hL => kk H locs ls (fun k q hk => by
    have h1 : (is.map (fun i => X[i]?))[k]? = some (some q) := by rw [h, List.getElem?_map, hk]; rfl
    rw [List.getElem?_map] at h1
    cases hi : is[k]? with
    | none => rw [hi] at h1; cases h1
    | some i => rw [hi] at h1; exact hP i q (Option.some.inj h1)) (hD.sub is hn h) hS hL
set_option maxHeartbeats 4000000 in
set_option maxRecDepth 100000 in
theorem c_X5_init (l : Launch) (cA : Nat → ClassId) (D : va_G) (h0 : Nat) : Ck l NS CL D (tyX cA) y_X5_init (.code y_X5_init b_X5_init 1 none :: TS) { frames := 1, cells := 4, slots := 640, locals := 12 } [.ref h0] [(h0, .inr (5, [.null, .null, .null, .null, .int 0]))] 4 640 (fun z => g_A z 6 = (fun _ => 0) ∧ g_A z 7 = (fun _ => 0) ∧ g_A z 8 = (fun _ => 0) ∧ g_L z 4 = (fun _ => 0) ∧ g_I z 19 = 0) (fun b z => [(h0, .inr (5, [.ref (b 0), .ref (b 1), .ref (b 2), .ref (b 3), .int (g_I z 19)])), (b 0, .inl (cA 0, 160, .inl (g_A z 6))), (b 1, .inl (cA 0, 160, .inl (g_A z 7))), (b 2, .inl (cA 0, 160, .inl (g_A z 8))), (b 3, .inl (cA 1, 160, .inr (.inl (g_L z 4))))]) := by
  refine Ck.of (by decide) (Nat.le_of_ble_eq_true rfl) ?_
  intro p e s m args below meth c hc hr hin
  have hA : ∀ q : Nat, s.heap.size ≤ q → va_A [(h0, .inr (5, [.null, .null, .null, .null, .int 0]))] s.heap.size q := fun q h => Or.inr h
  refine V_st _ [(0, .ref h0)] _ rfl rfl rfl ?_
  refine V_aload_n hc d_X5_init_0 rfl 0 rfl ?_
  refine V_objInit hc k_34 k_18 k_19 d_X5_init_1 (by decide) (Nat.le_of_ble_eq_true rfl) ?_
  refine V_aload_n hc d_X5_init_4 rfl 0 rfl ?_
  refine V_sipush (v := 160) hc d_X5_init_5 (by decide) ?_
  refine V_newa (atype := .int) (ty := .int) (a0 := (160, .inl (fun _ => 0))) hc k_60 rfl 0 rfl (fun _ _ h => h) hA (fun _ => rfl) (by decide) (by decide) (by decide) (by simp only []; omega) (by simp only []; omega) d_X5_init_8 (fun q1 => ?_)
  refine V_st [(h0, .inr (5, [.null, .null, .null, .null, .int 0])), (q1, .inl (cA 0, 160, .inl (fun _ => 0)))] _ _ rfl rfl rfl ?_
  refine V_putF (X' := [(h0, .inr (5, [.ref q1, .null, .null, .null, .int 0])), (q1, .inl (cA 0, 160, .inl (fun _ => 0)))]) (ty := .array .int) hc uin_X5 0 rfl rfl 0 (by decide) t_X5 t_X5_ok n_X5 k_35 rfl hin rfl (by decide +kernel) rfl rfl (Nat.le_of_ble_eq_true rfl) rfl d_X5_init_10 ?_
  refine V_aload_n hc d_X5_init_13 rfl 0 rfl ?_
  refine V_sipush (v := 160) hc d_X5_init_14 (by decide) ?_
  refine V_newa (atype := .int) (ty := .int) (a0 := (160, .inl (fun _ => 0))) hc k_60 rfl 0 rfl (fun _ _ h => h) hA (fun _ => rfl) (by decide) (by decide) (by decide) (by simp only []; omega) (by simp only []; omega) d_X5_init_17 (fun q2 => ?_)
  refine V_st [(h0, .inr (5, [.ref q1, .null, .null, .null, .int 0])), (q1, .inl (cA 0, 160, .inl (fun _ => 0))), (q2, .inl (cA 0, 160, .inl (fun _ => 0)))] _ _ rfl rfl rfl ?_
  refine V_putF (X' := [(h0, .inr (5, [.ref q1, .ref q2, .null, .null, .int 0])), (q1, .inl (cA 0, 160, .inl (fun _ => 0))), (q2, .inl (cA 0, 160, .inl (fun _ => 0)))]) (ty := .array .int) hc uin_X5 0 rfl rfl 1 (by decide) t_X5 t_X5_ok n_X5 k_38 rfl hin rfl (by decide +kernel) rfl rfl (Nat.le_of_ble_eq_true rfl) rfl d_X5_init_19 ?_
  refine V_aload_n hc d_X5_init_22 rfl 0 rfl ?_
  refine V_sipush (v := 160) hc d_X5_init_23 (by decide) ?_
  refine V_newa (atype := .int) (ty := .int) (a0 := (160, .inl (fun _ => 0))) hc k_60 rfl 0 rfl (fun _ _ h => h) hA (fun _ => rfl) (by decide) (by decide) (by decide) (by simp only []; omega) (by simp only []; omega) d_X5_init_26 (fun q3 => ?_)
  refine V_st [(h0, .inr (5, [.ref q1, .ref q2, .null, .null, .int 0])), (q1, .inl (cA 0, 160, .inl (fun _ => 0))), (q2, .inl (cA 0, 160, .inl (fun _ => 0))), (q3, .inl (cA 0, 160, .inl (fun _ => 0)))] _ _ rfl rfl rfl ?_
  refine V_putF (X' := [(h0, .inr (5, [.ref q1, .ref q2, .ref q3, .null, .int 0])), (q1, .inl (cA 0, 160, .inl (fun _ => 0))), (q2, .inl (cA 0, 160, .inl (fun _ => 0))), (q3, .inl (cA 0, 160, .inl (fun _ => 0)))]) (ty := .array .int) hc uin_X5 0 rfl rfl 2 (by decide) t_X5 t_X5_ok n_X5 k_41 rfl hin rfl (by decide +kernel) rfl rfl (Nat.le_of_ble_eq_true rfl) rfl d_X5_init_28 ?_
  refine V_aload_n hc d_X5_init_31 rfl 0 rfl ?_
  refine V_sipush (v := 160) hc d_X5_init_32 (by decide) ?_
  refine V_newa (atype := .long) (ty := .long) (a0 := (160, .inr (.inl (fun _ => 0)))) hc k_61 rfl 1 rfl (fun _ _ h => h) hA (fun _ => rfl) (by decide) (by decide) (by decide) (by simp only []; omega) (by simp only []; omega) d_X5_init_35 (fun q4 => ?_)
  refine V_st [(h0, .inr (5, [.ref q1, .ref q2, .ref q3, .null, .int 0])), (q1, .inl (cA 0, 160, .inl (fun _ => 0))), (q2, .inl (cA 0, 160, .inl (fun _ => 0))), (q3, .inl (cA 0, 160, .inl (fun _ => 0))), (q4, .inl (cA 1, 160, .inr (.inl (fun _ => 0))))] _ _ rfl rfl rfl ?_
  refine V_putF (X' := [(h0, .inr (5, [.ref q1, .ref q2, .ref q3, .ref q4, .int 0])), (q1, .inl (cA 0, 160, .inl (fun _ => 0))), (q2, .inl (cA 0, 160, .inl (fun _ => 0))), (q3, .inl (cA 0, 160, .inl (fun _ => 0))), (q4, .inl (cA 1, 160, .inr (.inl (fun _ => 0))))]) (ty := .array .long) hc uin_X5 0 rfl rfl 3 (by decide) t_X5 t_X5_ok n_X5 k_44 rfl hin rfl (by decide +kernel) rfl rfl (Nat.le_of_ble_eq_true rfl) rfl d_X5_init_37 ?_
  refine V_aload_n hc d_X5_init_40 rfl 0 rfl ?_
  refine V_iconst (v := 0) hc d_X5_init_41 (by decide) ?_
  refine V_put (X' := [(h0, .inr (5, [.ref q1, .ref q2, .ref q3, .ref q4, .int 0])), (q1, .inl (cA 0, 160, .inl (fun _ => 0))), (q2, .inl (cA 0, 160, .inl (fun _ => 0))), (q3, .inl (cA 0, 160, .inl (fun _ => 0))), (q4, .inl (cA 1, 160, .inr (.inl (fun _ => 0))))]) (ty := .int) hc uin_X5 0 rfl rfl 4 (by decide) t_X5 t_X5_ok n_X5 k_46 rfl (by decide +kernel) rfl rfl (Nat.le_of_ble_eq_true rfl) rfl d_X5_init_42 ?_
  refine V_widen (k := 4) (n := 640) (by omega) (by omega) ?_
  exact V_cret hc NS_nest hr (fun k => ([q1, q2, q3, q4] : List Nat).getD k 0) (fun k => ([0, 0, 0, 0, 0, 0, 0, 0, 0, 0, 0, 0, 0, 0, 0, 0, 0, 0, 0, 0] : List Int32).getD k 0, fun k => ([fun _ => 0] : List (Nat → Int32)).getD k (fun _ => 0), fun k => ([fun _ => 0] : List (Nat → Int64)).getD k (fun _ => 0)) rfl ⟨rfl, rfl, rfl, rfl, rfl⟩ d_X5_init_45
set_option maxHeartbeats 4000000 in
set_option maxRecDepth 100000 in
theorem c_X2_init (l : Launch) (cA : Nat → ClassId) (D : va_G) (h0 : Nat) : Ck l NS CL D (tyX cA) y_X2_init (.code y_X2_init b_X2_init 1 none :: TS) { frames := 1, cells := 1, slots := 32, locals := 12 } [.ref h0] [(h0, .inr (2, [.null, .int 0, .int 0]))] 1 32 (fun z => g_A z 2 = (fun _ => 0) ∧ g_I z 3 = 0 ∧ g_I z 4 = 0) (fun b z => [(h0, .inr (2, [.ref (b 0), .int (g_I z 3), .int (g_I z 4)])), (b 0, .inl (cA 0, 32, .inl (g_A z 2)))]) := by
  refine Ck.of (by decide) (Nat.le_of_ble_eq_true rfl) ?_
  intro p e s m args below meth c hc hr hin
  have hA : ∀ q : Nat, s.heap.size ≤ q → va_A [(h0, .inr (2, [.null, .int 0, .int 0]))] s.heap.size q := fun q h => Or.inr h
  refine V_st _ [(0, .ref h0)] _ rfl rfl rfl ?_
  refine V_aload_n hc d_X2_init_0 rfl 0 rfl ?_
  refine V_objInit hc k_100 k_18 k_19 d_X2_init_1 (by decide) (Nat.le_of_ble_eq_true rfl) ?_
  refine V_aload_n hc d_X2_init_4 rfl 0 rfl ?_
  refine V_bipush (v := 32) hc d_X2_init_5 (by decide) ?_
  refine V_newa (atype := .int) (ty := .int) (a0 := (32, .inl (fun _ => 0))) hc k_60 rfl 0 rfl (fun _ _ h => h) hA (fun _ => rfl) (by decide) (by decide) (by decide) (by simp only []; omega) (by simp only []; omega) d_X2_init_7 (fun q1 => ?_)
  refine V_st [(h0, .inr (2, [.null, .int 0, .int 0])), (q1, .inl (cA 0, 32, .inl (fun _ => 0)))] _ _ rfl rfl rfl ?_
  refine V_putF (X' := [(h0, .inr (2, [.ref q1, .int 0, .int 0])), (q1, .inl (cA 0, 32, .inl (fun _ => 0)))]) (ty := .array .int) hc uin_X2 0 rfl rfl 0 (by decide) t_X2 t_X2_ok n_X2 k_101 rfl hin rfl (by decide +kernel) rfl rfl (Nat.le_of_ble_eq_true rfl) rfl d_X2_init_9 ?_
  refine V_aload_n hc d_X2_init_12 rfl 0 rfl ?_
  refine V_iconst (v := 0) hc d_X2_init_13 (by decide) ?_
  refine V_put (X' := [(h0, .inr (2, [.ref q1, .int 0, .int 0])), (q1, .inl (cA 0, 32, .inl (fun _ => 0)))]) (ty := .int) hc uin_X2 0 rfl rfl 1 (by decide) t_X2 t_X2_ok n_X2 k_102 rfl (by decide +kernel) rfl rfl (Nat.le_of_ble_eq_true rfl) rfl d_X2_init_14 ?_
  refine V_aload_n hc d_X2_init_17 rfl 0 rfl ?_
  refine V_iconst (v := 0) hc d_X2_init_18 (by decide) ?_
  refine V_put (X' := [(h0, .inr (2, [.ref q1, .int 0, .int 0])), (q1, .inl (cA 0, 32, .inl (fun _ => 0)))]) (ty := .int) hc uin_X2 0 rfl rfl 2 (by decide) t_X2 t_X2_ok n_X2 k_104 rfl (by decide +kernel) rfl rfl (Nat.le_of_ble_eq_true rfl) rfl d_X2_init_19 ?_
  refine V_widen (k := 1) (n := 32) (by omega) (by omega) ?_
  exact V_cret hc NS_nest hr (fun k => ([q1] : List Nat).getD k 0) (fun k => ([0, 0, 0, 0, 0] : List Int32).getD k 0, fun k => ([fun _ => 0] : List (Nat → Int32)).getD k (fun _ => 0), fun k => ([fun _ => 0] : List (Nat → Int64)).getD k (fun _ => 0)) rfl ⟨rfl, rfl, rfl⟩ d_X2_init_22
set_option maxHeartbeats 4000000 in
set_option maxRecDepth 100000 in
theorem c_X6_init (l : Launch) (cA : Nat → ClassId) (D : va_G) (h0 : Nat) (K : Nat) (hK0 : 1 ≤ K) (hK : K ≤ 12) : Ck l NS CL D (tyX cA) y_X6_init (.code y_X6_init b_X6_init 2 none :: TS) { frames := 1, cells := 2, slots := 24, locals := 12 } [.ref h0, .int (nI K)] [(h0, .inr (6, [.null, .null, .int 0, .int 0, .int 0]))] 2 24 (fun z => g_L z 5 = (fun _ => 0) ∧ g_A z 9 = (fun _ => 0) ∧ g_I z 20 = 0 ∧ g_I z 21 = (-1) ∧ g_I z 22 = (-1)) (fun b z => [(h0, .inr (6, [.ref (b 0), .ref (b 1), .int (g_I z 20), .int (g_I z 21), .int (g_I z 22)])), (b 0, .inl (cA 1, K, .inr (.inl (g_L z 5)))), (b 1, .inl (cA 2, K, .inl (g_A z 9)))]) := by
  refine Ck.of (by decide) (Nat.le_of_ble_eq_true rfl) ?_
  intro p e s m args below meth c hc hr hin
  have hA : ∀ q : Nat, s.heap.size ≤ q → va_A [(h0, .inr (6, [.null, .null, .int 0, .int 0, .int 0]))] s.heap.size q := fun q h => Or.inr h
  refine V_st _ [(0, .ref h0), (1, .int (nI K))] _ rfl rfl rfl ?_
  refine V_aload_n hc d_X6_init_0 rfl 0 rfl ?_
  refine V_objInit hc k_124 k_18 k_19 d_X6_init_1 (by decide) (Nat.le_of_ble_eq_true rfl) ?_
  refine V_aload_n hc d_X6_init_4 rfl 0 rfl ?_
  refine V_iconst (v := 0) hc d_X6_init_5 (by decide) ?_
  refine V_put (X' := [(h0, .inr (6, [.null, .null, .int 0, .int 0, .int 0]))]) (ty := .int) hc uin_X6 0 rfl rfl 2 (by decide) t_X6 t_X6_ok n_X6 k_128 rfl (by decide +kernel) rfl rfl (Nat.le_of_ble_eq_true rfl) rfl d_X6_init_6 ?_
  refine V_aload_n hc d_X6_init_9 rfl 0 rfl ?_
  refine V_iconst (v := (-1)) hc d_X6_init_10 (by decide) ?_
  refine V_put (X' := [(h0, .inr (6, [.null, .null, .int 0, .int (-1), .int 0]))]) (ty := .int) hc uin_X6 0 rfl rfl 3 (by decide) t_X6 t_X6_ok n_X6 k_130 rfl (by decide +kernel) rfl rfl (Nat.le_of_ble_eq_true rfl) rfl d_X6_init_11 ?_
  refine V_aload_n hc d_X6_init_14 rfl 0 rfl ?_
  refine V_iconst (v := (-1)) hc d_X6_init_15 (by decide) ?_
  refine V_put (X' := [(h0, .inr (6, [.null, .null, .int 0, .int (-1), .int (-1)]))]) (ty := .int) hc uin_X6 0 rfl rfl 4 (by decide) t_X6 t_X6_ok n_X6 k_131 rfl (by decide +kernel) rfl rfl (Nat.le_of_ble_eq_true rfl) rfl d_X6_init_16 ?_
  refine V_aload_n hc d_X6_init_19 rfl 0 rfl ?_
  refine V_iload_n hc d_X6_init_20 rfl 1 rfl ?_
  refine V_newa (atype := .long) (ty := .long) (a0 := (K, .inr (.inl (fun _ => 0)))) hc k_61 rfl 1 rfl (fun _ _ h => h) hA (fun _ => rfl) (nI_pos (by omega)) (nI_clamp (by omega)) (by show K * 8 ≤ 536870912; omega) (by simp only []; omega) (by simp only []; omega) d_X6_init_21 (fun q1 => ?_)
  refine V_st [(h0, .inr (6, [.null, .null, .int 0, .int (-1), .int (-1)])), (q1, .inl (cA 1, K, .inr (.inl (fun _ => 0))))] _ _ rfl rfl rfl ?_
  refine V_putF (X' := [(h0, .inr (6, [.ref q1, .null, .int 0, .int (-1), .int (-1)])), (q1, .inl (cA 1, K, .inr (.inl (fun _ => 0))))]) (ty := .array .long) hc uin_X6 0 rfl rfl 0 (by decide) t_X6 t_X6_ok n_X6 k_125 rfl hin rfl (by decide +kernel) rfl rfl (Nat.le_of_ble_eq_true rfl) rfl d_X6_init_23 ?_
  refine V_aload_n hc d_X6_init_26 rfl 0 rfl ?_
  refine V_iload_n hc d_X6_init_27 rfl 1 rfl ?_
  refine V_newa (atype := .boolean) (ty := .boolean) (a0 := (K, .inl (fun _ => 0))) hc k_143 rfl 2 rfl (fun _ _ h => h) hA (fun _ => rfl) (nI_pos (by omega)) (nI_clamp (by omega)) (by show K * 1 ≤ 536870912; omega) (by simp only []; omega) (by simp only []; omega) d_X6_init_28 (fun q2 => ?_)
  refine V_st [(h0, .inr (6, [.ref q1, .null, .int 0, .int (-1), .int (-1)])), (q1, .inl (cA 1, K, .inr (.inl (fun _ => 0)))), (q2, .inl (cA 2, K, .inl (fun _ => 0)))] _ _ rfl rfl rfl ?_
  refine V_putF (X' := [(h0, .inr (6, [.ref q1, .ref q2, .int 0, .int (-1), .int (-1)])), (q1, .inl (cA 1, K, .inr (.inl (fun _ => 0)))), (q2, .inl (cA 2, K, .inl (fun _ => 0)))]) (ty := .array .boolean) hc uin_X6 0 rfl rfl 1 (by decide) t_X6 t_X6_ok n_X6 k_126 rfl hin rfl (by decide +kernel) rfl rfl (Nat.le_of_ble_eq_true rfl) rfl d_X6_init_30 ?_
  refine V_widen (k := 2) (n := 24) (by omega) (by omega) ?_
  exact V_cret hc NS_nest hr (fun k => ([q1, q2] : List Nat).getD k 0) (fun k => ([0, 0, 0, 0, 0, 0, 0, 0, 0, 0, 0, 0, 0, 0, 0, 0, 0, 0, 0, 0, 0, (-1), (-1)] : List Int32).getD k 0, fun k => ([fun _ => 0] : List (Nat → Int32)).getD k (fun _ => 0), fun k => ([fun _ => 0] : List (Nat → Int64)).getD k (fun _ => 0)) rfl ⟨rfl, rfl, rfl, rfl, rfl⟩ d_X6_init_33
set_option maxHeartbeats 4000000 in
set_option maxRecDepth 100000 in
theorem lc_J0_fill (l : Launch) (cA : Nat → ClassId) (D : va_G) (p : Program) (e : Env) (s : State) (m : MethodId) (args : Array Value) (below : List Frame) (meth : Method) (c : Code) (hc : Cx TS NS CL D (tyX cA) p s m args meth c b_J0_fill 5 y_J0_fill.cls) (hr : meth.sig.returnType = none) (h0 : Nat) (K : Nat) (hK : K ≤ 12) (f : Nat → Int64) : ∀ (n i : Nat) (g : Nat → Int64), i + n = K → (∀ j, j < i → g j = -1) → V CL p l e { frames := 0, cells := 0, slots := 0, locals := 0 } s m args below meth c 5 D (va_A [(h0, .inl (cA 1, K, .inr (.inl f)))] s.heap.size) (0) (0) (MQ below (Qk NS CL D (tyX cA) (va_A [(h0, .inl (cA 1, K, .inr (.inl f)))] s.heap.size) (fun z => ∀ j, j < K → g_L z 5 j = -1) (fun b z => [(h0, .inl (cA 1, K, .inr (.inl (g_L z 5))))])) args s 0 0 (va_A [(h0, .inl (cA 1, K, .inr (.inl f)))] s.heap.size)) [(h0, .inl (cA 1, K, .inr (.inl g)))] 6 [(3, .int (nI i)), (4, .int (nI K)), (0, .ref h0), (1, .long (-1))] [] := by
  intro n
  induction n with
  | zero =>
    intro i g hi hg
    refine V_iload_n hc d_J0_fill_6 rfl 0 rfl ?_
    refine V_iload hc d_J0_fill_7 1 rfl ?_
    refine V_icmp_ge (tgt := 22) hc d_J0_fill_9 rfl (fun h => ?_) (fun h => absurd ((nI_leI (by omega) (by omega)).mpr (by omega)) h)
    exact V_cret hc NS_nest hr (fun _ => 0) (fun _ => 0, fun _ _ => 0, fun _ => g) rfl (fun j hj => hg j (by omega)) d_J0_fill_22
  | succ n ih =>
    intro i g hi hg
    refine V_iload_n hc d_J0_fill_6 rfl 0 rfl ?_
    refine V_iload hc d_J0_fill_7 1 rfl ?_
    refine V_icmp_ge (tgt := 22) hc d_J0_fill_9 rfl (fun h => absurd ((nI_leI (by omega) (by omega)).mp h) (by omega)) (fun _ => ?_)
    have hi2 : vp_in (nI i) K := vp_in_nI (by omega) (by omega)
    refine V_aload_n hc d_J0_fill_12 rfl 2 rfl ?_
    refine V_iload_n hc d_J0_fill_13 rfl 0 rfl ?_
    refine V_lload_n hc d_J0_fill_14 rfl 3 rfl ?_
    refine V_last (X' := [(h0, .inl (cA 1, K, .inr (.inl (vp_updL g (nI i).toNatClampNeg (-1)))))]) hc 0 1 rfl rfl hi2 rfl d_J0_fill_15 ?_
    refine V_iinc (v := nI (i + 1)) hc [(3, .int (nI (i + 1))), (4, .int (nI K)), (0, .ref h0), (1, .long (-1))] d_J0_fill_16 0 rfl (nI_1 _) (by decide) rfl ?_
    refine V_goto (tgt := 6) hc d_J0_fill_19 rfl ?_
    refine ih (i + 1) _ (by omega) (fun j hj => ?_)
    rw [nI_clamp (by omega)]
    by_cases hji : j = i
    · subst hji; exact pk_uLs
    · rw [pk_uLn hji]; exact hg j (by omega)
set_option maxHeartbeats 4000000 in
set_option maxRecDepth 100000 in
theorem c_J0_fill (l : Launch) (cA : Nat → ClassId) (D : va_G) (h0 : Nat) (K : Nat) (hK : K ≤ 12) (f : Nat → Int64) : Ck l NS CL D (tyX cA) y_J0_fill (.code y_J0_fill b_J0_fill 5 none :: TS) { frames := 0, cells := 0, slots := 0, locals := 0 } [.ref h0, .long (-1)] [(h0, .inl (cA 1, K, .inr (.inl f)))] 0 0 (fun z => ∀ j, j < K → g_L z 5 j = -1) (fun b z => [(h0, .inl (cA 1, K, .inr (.inl (g_L z 5))))]) := by
  refine Ck.of (by decide) (Nat.le_of_ble_eq_true rfl) ?_
  intro p e s m args below meth c hc hr hin
  have hA : ∀ q : Nat, s.heap.size ≤ q → va_A [(h0, .inl (cA 1, K, .inr (.inl f)))] s.heap.size q := fun q h => Or.inr h
  refine V_st _ [(0, .ref h0), (1, .long (-1))] _ rfl rfl rfl ?_
  refine V_iconst (v := 0) hc d_J0_fill_0 (by decide) ?_
  refine V_istore_n hc [(3, .int 0), (0, .ref h0), (1, .long (-1))] d_J0_fill_1 rfl (by decide) rfl ?_
  refine V_aload_n hc d_J0_fill_2 rfl 1 rfl ?_
  refine V_alen (v := nI K) hc 0 1 rfl rfl rfl d_J0_fill_3 ?_
  refine V_istore hc [(4, .int (nI K)), (3, .int 0), (0, .ref h0), (1, .long (-1))] d_J0_fill_4 (by decide) rfl ?_
  refine V_sub [1, 0, 2, 3] [(3, .int (nI 0)), (4, .int (nI K)), (0, .ref h0), (1, .long (-1))] rfl ?_
  exact lc_J0_fill l cA D p e s m args below meth c hc hr h0 K hK f K 0 f (by omega) (fun j hj => by omega)
set_option maxHeartbeats 4000000 in
set_option maxRecDepth 100000 in
theorem lc_X1_init (l : Launch) (cA : Nat → ClassId) (D : va_G) (p : Program) (e : Env) (s : State) (m : MethodId) (args : Array Value) (below : List Frame) (meth : Method) (c : Code) (hc : Cx TS NS CL D (tyX cA) p s m args meth c b_X1_init 4 y_X1_init.cls) (hr : meth.sig.returnType = none) (h0 lg : Nat) (K : Nat) (hK0 : 1 ≤ K) (hK : K ≤ 12) (q1 q2 q3 q4 : Nat) : ∀ (n i : Nat) (f : Nat → Int64) (g : Nat → Int32) (h : Nat → Int64), i + n = K → (∀ j, j < i → f j = row0 (nI j) ∧ g j = -1 ∧ h j = -2) → V CL p l e { frames := 1, cells := 4, slots := 40, locals := 21 } s m args below meth c 4 D (va_A [(h0, .inr (1, [.null, .null, .null, .null, .null, .int 0, .int 0]))] s.heap.size) (0 + 1 + 1 + 1 + 1) (0 + 4 + K + K + K) (MQ below (Qk NS CL D (tyX cA) (va_A [(h0, .inr (1, [.null, .null, .null, .null, .null, .int 0, .int 0]))] s.heap.size) (fun z => g_I z 1 = 0 ∧ g_I z 2 = 0 ∧ g_A z 1 = (fun _ => 0) ∧ ∀ j, j < K → g_L z 0 j = row0 (nI j) ∧ g_A z 0 j = -1 ∧ g_L z 1 j = -2) (fun b z => [(h0, .inr (1, [.ref lg, .ref (b 0), .ref (b 1), .ref (b 2), .ref (b 3), .int (g_I z 1), .int (g_I z 2)])), (b 0, .inl (cA 1, K, .inr (.inl (g_L z 0)))), (b 1, .inl (cA 0, K, .inl (g_A z 0))), (b 2, .inl (cA 1, K, .inr (.inl (g_L z 1)))), (b 3, .inl (cA 0, 4, .inl (g_A z 1)))])) args s 4 40 (va_A [(h0, .inr (1, [.null, .null, .null, .null, .null, .int 0, .int 0]))] s.heap.size)) [(h0, .inr (1, [.ref lg, .ref q2, .ref q3, .ref q4, .ref q1, .int 0, .int 0])), (q1, .inl (cA 0, 4, .inl (fun _ => 0))), (q2, .inl (cA 1, K, .inr (.inl f))), (q3, .inl (cA 0, K, .inl g)), (q4, .inl (cA 1, K, .inr (.inl h)))] 49 [(3, .int (nI i)), (0, .ref h0), (1, .ref lg), (2, .int (nI K))] [] := by
  have hA : ∀ q : Nat, s.heap.size ≤ q → va_A [(h0, .inr (1, [.null, .null, .null, .null, .null, .int 0, .int 0]))] s.heap.size q := fun q h => Or.inr h
  intro n
  induction n with
  | zero =>
    intro i f g h hi hg
    refine V_iload_n hc d_X1_init_49 rfl 0 rfl ?_
    refine V_iload_n hc d_X1_init_50 rfl 3 rfl ?_
    refine V_icmp_ge (tgt := 92) hc d_X1_init_51 rfl (fun _ => ?_) (fun h9 => absurd ((nI_leI (by omega) (by omega)).mpr (by omega)) h9)
    refine V_perm [0, 2, 3, 4, 1] [(h0, .inr (1, [.ref lg, .ref q2, .ref q3, .ref q4, .ref q1, .int 0, .int 0])), (q2, .inl (cA 1, K, .inr (.inl f))), (q3, .inl (cA 0, K, .inl g)), (q4, .inl (cA 1, K, .inr (.inl h))), (q1, .inl (cA 0, 4, .inl (fun _ => 0)))] rfl (by decide) ?_
    refine V_widen (k := 4) (n := 40) (by omega) (by omega) ?_
    exact V_cret hc NS_nest hr (fun k => ([q2, q3, q4, q1] : List Nat).getD k 0) (fun k => ([0, 0, 0] : List Int32).getD k 0, fun k => ([g] : List (Nat → Int32)).getD k (fun _ => 0), fun k => ([f, h] : List (Nat → Int64)).getD k (fun _ => 0)) rfl ⟨rfl, rfl, rfl, fun j hj => hg j (by omega)⟩ d_X1_init_92
  | succ n ih =>
    intro i f g h hi hg
    refine V_iload_n hc d_X1_init_49 rfl 0 rfl ?_
    refine V_iload_n hc d_X1_init_50 rfl 3 rfl ?_
    refine V_icmp_ge (tgt := 92) hc d_X1_init_51 rfl (fun h => absurd ((nI_leI (by omega) (by omega)).mp h) (by omega)) (fun _ => ?_)
    refine V_aload_n hc d_X1_init_54 rfl 1 rfl ?_
    refine V_get (v := .ref q2) hc uin_X1 0 rfl rfl 1 (by decide) k_74 rfl d_X1_init_55 ?_
    refine V_iload_n hc d_X1_init_58 rfl 0 rfl ?_
    refine V_iload_n hc d_X1_init_59 rfl 0 rfl ?_
    refine V_iconst (v := 4) hc d_X1_init_60 (by decide) ?_
    refine V_irem hc d_X1_init_61 (by decide) rfl ?_
    refine V_bipush (v := 10) hc d_X1_init_62 (by decide) ?_
    refine V_iload_n hc d_X1_init_64 rfl 0 rfl ?_
    refine V_imul hc d_X1_init_65 rfl ?_
    have hi : vp_in (nI i) K := vp_in_nI (by omega) (by omega)
    refine V_callSNl (b := 0) (As := [.int (nI i - nI i / 4 * 4), .int (10 * nI i)]) (st := [.int (nI i), .ref q2]) hc TS_good NS_nest hA (c_X0_rowOf l K cA D (fun _ => 0) (nI i - nI i / 4 * 4) (10 * nI i) (fun _ => 0, fun _ _ => 0, fun _ _ => 0)) k_68 k_1 k_70 k_69 q_X0_rowOf (by decide) (by simp only []; omega) (by simp only []; omega) rfl (Nat.le_of_ble_eq_true rfl) d_X1_init_66 (Qr := fun r _ => r = row0 (nI i)) (show row0 (nI i) = row0 (nI i) from rfl) (fun r u hw => ?_)
    subst hw
    refine V_last (X' := [(h0, .inr (1, [.ref lg, .ref q2, .ref q3, .ref q4, .ref q1, .int 0, .int 0])), (q1, .inl (cA 0, 4, .inl (fun _ => 0))), (q2, .inl (cA 1, K, .inr (.inl (vp_updL f ((nI i) : Int32).toNatClampNeg (row0 (nI i)))))), (q3, .inl (cA 0, K, .inl g)), (q4, .inl (cA 1, K, .inr (.inl h)))]) hc 2 1 rfl rfl hi rfl d_X1_init_69 ?_
    refine V_aload_n hc d_X1_init_70 rfl 1 rfl ?_
    refine V_get (v := .ref q3) hc uin_X1 0 rfl rfl 2 (by decide) k_75 rfl d_X1_init_71 ?_
    refine V_iload_n hc d_X1_init_74 rfl 0 rfl ?_
    refine V_iconst (v := (-1)) hc d_X1_init_75 (by decide) ?_
    refine V_iast (X' := [(h0, .inr (1, [.ref lg, .ref q2, .ref q3, .ref q4, .ref q1, .int 0, .int 0])), (q1, .inl (cA 0, 4, .inl (fun _ => 0))), (q2, .inl (cA 1, K, .inr (.inl (vp_updL f ((nI i) : Int32).toNatClampNeg (row0 (nI i)))))), (q3, .inl (cA 0, K, .inl (upd g ((nI i) : Int32).toNatClampNeg (-1)))), (q4, .inl (cA 1, K, .inr (.inl h)))]) hc 3 0 rfl rfl hi rfl d_X1_init_76 ?_
    refine V_aload_n hc d_X1_init_77 rfl 1 rfl ?_
    refine V_get (v := .ref q4) hc uin_X1 0 rfl rfl 3 (by decide) k_76 rfl d_X1_init_78 ?_
    refine V_iload_n hc d_X1_init_81 rfl 0 rfl ?_
    refine V_ldc2 (v := (-2)) hc k_72 d_X1_init_82 ?_
    refine V_last (X' := [(h0, .inr (1, [.ref lg, .ref q2, .ref q3, .ref q4, .ref q1, .int 0, .int 0])), (q1, .inl (cA 0, 4, .inl (fun _ => 0))), (q2, .inl (cA 1, K, .inr (.inl (vp_updL f ((nI i) : Int32).toNatClampNeg (row0 (nI i)))))), (q3, .inl (cA 0, K, .inl (upd g ((nI i) : Int32).toNatClampNeg (-1)))), (q4, .inl (cA 1, K, .inr (.inl (vp_updL h ((nI i) : Int32).toNatClampNeg (-2)))))]) hc 4 1 rfl rfl hi rfl d_X1_init_85 ?_
    refine V_iinc (v := (nI (i + 1))) hc [(3, .int (nI (i + 1))), (0, .ref h0), (1, .ref lg), (2, .int (nI K))] d_X1_init_86 0 rfl (nI_1 _) (by decide) rfl ?_
    refine V_goto (tgt := 49) hc d_X1_init_89 rfl ?_
    refine ih (i + 1) _ _ _ (by omega) (fun j hj => ?_)
    rw [nI_clamp (by omega)]
    by_cases hji : j = i
    · subst hji; exact ⟨pk_uLs, pk_us, pk_uLs⟩
    · rw [pk_uLn hji, pk_un hji, pk_uLn hji]; exact hg j (by omega)
set_option maxHeartbeats 4000000 in
set_option maxRecDepth 100000 in
theorem c_X1_init (l : Launch) (cA : Nat → ClassId) (D : va_G) (h0 lg : Nat) (K : Nat) (hK0 : 1 ≤ K) (hK : K ≤ 12) : Ck l NS CL D (tyX cA) y_X1_init (.code y_X1_init b_X1_init 4 none :: TS) { frames := 1, cells := 4, slots := 40, locals := 21 } [.ref h0, .ref lg, .int (nI K)] [(h0, .inr (1, [.null, .null, .null, .null, .null, .int 0, .int 0]))] 4 40 (fun z => g_I z 1 = 0 ∧ g_I z 2 = 0 ∧ g_A z 1 = (fun _ => 0) ∧ ∀ j, j < K → g_L z 0 j = row0 (nI j) ∧ g_A z 0 j = -1 ∧ g_L z 1 j = -2) (fun b z => [(h0, .inr (1, [.ref lg, .ref (b 0), .ref (b 1), .ref (b 2), .ref (b 3), .int (g_I z 1), .int (g_I z 2)])), (b 0, .inl (cA 1, K, .inr (.inl (g_L z 0)))), (b 1, .inl (cA 0, K, .inl (g_A z 0))), (b 2, .inl (cA 1, K, .inr (.inl (g_L z 1)))), (b 3, .inl (cA 0, 4, .inl (g_A z 1)))]) := by
  refine Ck.of (by decide) (Nat.le_of_ble_eq_true rfl) ?_
  intro p e s m args below meth c hc hr hin
  have hA : ∀ q : Nat, s.heap.size ≤ q → va_A [(h0, .inr (1, [.null, .null, .null, .null, .null, .int 0, .int 0]))] s.heap.size q := fun q h => Or.inr h
  refine V_st _ [(0, .ref h0), (1, .ref lg), (2, .int (nI K))] _ rfl rfl rfl ?_
  refine V_aload_n hc d_X1_init_0 rfl 0 rfl ?_
  refine V_objInit hc k_67 k_18 k_19 d_X1_init_1 (by decide) (Nat.le_of_ble_eq_true rfl) ?_
  refine V_aload_n hc d_X1_init_4 rfl 0 rfl ?_
  refine V_iconst (v := 4) hc d_X1_init_5 (by decide) ?_
  refine V_newa (atype := .int) (ty := .int) (a0 := (4, .inl (fun _ => 0))) hc k_60 rfl 0 rfl (fun _ _ h => h) hA (fun _ => rfl) (by decide) (by decide) (by decide) (by simp only []; omega) (by simp only []; omega) d_X1_init_6 (fun q1 => ?_)
  refine V_st [(h0, .inr (1, [.null, .null, .null, .null, .null, .int 0, .int 0])), (q1, .inl (cA 0, 4, .inl (fun _ => 0)))] _ _ rfl rfl rfl ?_
  refine V_putF (X' := [(h0, .inr (1, [.null, .null, .null, .null, .ref q1, .int 0, .int 0])), (q1, .inl (cA 0, 4, .inl (fun _ => 0)))]) (ty := .array .int) hc uin_X1 0 rfl rfl 4 (by decide) t_X1 t_X1_ok n_X1 k_77 rfl hin rfl (by decide +kernel) rfl rfl (Nat.le_of_ble_eq_true rfl) rfl d_X1_init_8 ?_
  refine V_aload_n hc d_X1_init_11 rfl 0 rfl ?_
  refine V_iconst (v := 0) hc d_X1_init_12 (by decide) ?_
  refine V_put (X' := [(h0, .inr (1, [.null, .null, .null, .null, .ref q1, .int 0, .int 0])), (q1, .inl (cA 0, 4, .inl (fun _ => 0)))]) (ty := .int) hc uin_X1 0 rfl rfl 5 (by decide) t_X1 t_X1_ok n_X1 k_78 rfl (by decide +kernel) rfl rfl (Nat.le_of_ble_eq_true rfl) rfl d_X1_init_13 ?_
  refine V_aload_n hc d_X1_init_16 rfl 0 rfl ?_
  refine V_iconst (v := 0) hc d_X1_init_17 (by decide) ?_
  refine V_put (X' := [(h0, .inr (1, [.null, .null, .null, .null, .ref q1, .int 0, .int 0])), (q1, .inl (cA 0, 4, .inl (fun _ => 0)))]) (ty := .int) hc uin_X1 0 rfl rfl 6 (by decide) t_X1 t_X1_ok n_X1 k_79 rfl (by decide +kernel) rfl rfl (Nat.le_of_ble_eq_true rfl) rfl d_X1_init_18 ?_
  refine V_aload_n hc d_X1_init_21 rfl 0 rfl ?_
  refine V_aload_n hc d_X1_init_22 rfl 1 rfl ?_
  refine V_putF (X' := [(h0, .inr (1, [.ref lg, .null, .null, .null, .ref q1, .int 0, .int 0])), (q1, .inl (cA 0, 4, .inl (fun _ => 0)))]) (ty := .object "ChangeFeed$Log") hc uin_X1 0 rfl rfl 0 (by decide) t_X1 t_X1_ok n_X1 k_73 rfl hin rfl (by decide +kernel) rfl rfl (Nat.le_of_ble_eq_true rfl) rfl d_X1_init_23 ?_
  refine V_aload_n hc d_X1_init_26 rfl 0 rfl ?_
  refine V_iload_n hc d_X1_init_27 rfl 2 rfl ?_
  refine V_newa (atype := .long) (ty := .long) (a0 := (K, .inr (.inl (fun _ => 0)))) hc k_61 rfl 1 rfl (fun _ _ h => h) hA (fun _ => rfl) (nI_pos (by omega)) (nI_clamp (by omega)) (by show K * 8 ≤ 536870912; omega) (by simp only []; omega) (by simp only []; omega) d_X1_init_28 (fun q2 => ?_)
  refine V_st [(h0, .inr (1, [.ref lg, .null, .null, .null, .ref q1, .int 0, .int 0])), (q1, .inl (cA 0, 4, .inl (fun _ => 0))), (q2, .inl (cA 1, K, .inr (.inl (fun _ => 0))))] _ _ rfl rfl rfl ?_
  refine V_putF (X' := [(h0, .inr (1, [.ref lg, .ref q2, .null, .null, .ref q1, .int 0, .int 0])), (q1, .inl (cA 0, 4, .inl (fun _ => 0))), (q2, .inl (cA 1, K, .inr (.inl (fun _ => 0))))]) (ty := .array .long) hc uin_X1 0 rfl rfl 1 (by decide) t_X1 t_X1_ok n_X1 k_74 rfl hin rfl (by decide +kernel) rfl rfl (Nat.le_of_ble_eq_true rfl) rfl d_X1_init_30 ?_
  refine V_aload_n hc d_X1_init_33 rfl 0 rfl ?_
  refine V_iload_n hc d_X1_init_34 rfl 2 rfl ?_
  refine V_newa (atype := .int) (ty := .int) (a0 := (K, .inl (fun _ => 0))) hc k_60 rfl 0 rfl (fun _ _ h => h) hA (fun _ => rfl) (nI_pos (by omega)) (nI_clamp (by omega)) (by show K * 4 ≤ 536870912; omega) (by simp only []; omega) (by simp only []; omega) d_X1_init_35 (fun q3 => ?_)
  refine V_st [(h0, .inr (1, [.ref lg, .ref q2, .null, .null, .ref q1, .int 0, .int 0])), (q1, .inl (cA 0, 4, .inl (fun _ => 0))), (q2, .inl (cA 1, K, .inr (.inl (fun _ => 0)))), (q3, .inl (cA 0, K, .inl (fun _ => 0)))] _ _ rfl rfl rfl ?_
  refine V_putF (X' := [(h0, .inr (1, [.ref lg, .ref q2, .ref q3, .null, .ref q1, .int 0, .int 0])), (q1, .inl (cA 0, 4, .inl (fun _ => 0))), (q2, .inl (cA 1, K, .inr (.inl (fun _ => 0)))), (q3, .inl (cA 0, K, .inl (fun _ => 0)))]) (ty := .array .int) hc uin_X1 0 rfl rfl 2 (by decide) t_X1 t_X1_ok n_X1 k_75 rfl hin rfl (by decide +kernel) rfl rfl (Nat.le_of_ble_eq_true rfl) rfl d_X1_init_37 ?_
  refine V_aload_n hc d_X1_init_40 rfl 0 rfl ?_
  refine V_iload_n hc d_X1_init_41 rfl 2 rfl ?_
  refine V_newa (atype := .long) (ty := .long) (a0 := (K, .inr (.inl (fun _ => 0)))) hc k_61 rfl 1 rfl (fun _ _ h => h) hA (fun _ => rfl) (nI_pos (by omega)) (nI_clamp (by omega)) (by show K * 8 ≤ 536870912; omega) (by simp only []; omega) (by simp only []; omega) d_X1_init_42 (fun q4 => ?_)
  refine V_st [(h0, .inr (1, [.ref lg, .ref q2, .ref q3, .null, .ref q1, .int 0, .int 0])), (q1, .inl (cA 0, 4, .inl (fun _ => 0))), (q2, .inl (cA 1, K, .inr (.inl (fun _ => 0)))), (q3, .inl (cA 0, K, .inl (fun _ => 0))), (q4, .inl (cA 1, K, .inr (.inl (fun _ => 0))))] _ _ rfl rfl rfl ?_
  refine V_putF (X' := [(h0, .inr (1, [.ref lg, .ref q2, .ref q3, .ref q4, .ref q1, .int 0, .int 0])), (q1, .inl (cA 0, 4, .inl (fun _ => 0))), (q2, .inl (cA 1, K, .inr (.inl (fun _ => 0)))), (q3, .inl (cA 0, K, .inl (fun _ => 0))), (q4, .inl (cA 1, K, .inr (.inl (fun _ => 0))))]) (ty := .array .long) hc uin_X1 0 rfl rfl 3 (by decide) t_X1 t_X1_ok n_X1 k_76 rfl hin rfl (by decide +kernel) rfl rfl (Nat.le_of_ble_eq_true rfl) rfl d_X1_init_44 ?_
  refine V_iconst (v := 0) hc d_X1_init_47 (by decide) ?_
  refine V_istore_n hc [(3, .int 0), (0, .ref h0), (1, .ref lg), (2, .int (nI K))] d_X1_init_48 rfl (by decide) rfl ?_
  refine V_sub [0, 1, 2, 3] [(3, .int (nI 0)), (0, .ref h0), (1, .ref lg), (2, .int (nI K))] rfl ?_
  exact lc_X1_init l cA D p e s m args below meth c hc hr h0 lg K hK0 hK q1 q2 q3 q4 K 0 _ _ _ (by omega) (fun j hj => by omega)
set_option maxHeartbeats 4000000 in
set_option maxRecDepth 100000 in
theorem c_X4_init (l : Launch) (cA : Nat → ClassId) (D : va_G) (h0 lg : Nat) (K : Nat) (hK0 : 1 ≤ K) (hK : K ≤ 12) (x3 x4 : Int32) : Ck l NS CL D (tyX cA) y_X4_init (.code y_X4_init b_X4_init 5 none :: TS) { frames := 1, cells := 1, slots := 12, locals := 24 } [.ref h0, .ref lg, .int (nI K), .int x3, .int x4] [(h0, .inr (4, [.null, .int 0, .int 0, .null, .int 0, .int 0, .int 0]))] 1 12 (fun z => g_I z 14 = x3 ∧ g_I z 15 = x4 ∧ g_I z 16 = -1 ∧ g_I z 17 = -1 ∧ g_I z 18 = 0 ∧ ∀ j, j < K → g_L z 3 j = -1) (fun b z => [(h0, .inr (4, [.ref lg, .int (g_I z 14), .int (g_I z 15), .ref (b 0), .int (g_I z 16), .int (g_I z 17), .int (g_I z 18)])), (b 0, .inl (cA 1, K, .inr (.inl (g_L z 3))))]) := by
  refine Ck.of (by decide) (Nat.le_of_ble_eq_true rfl) ?_
  intro p e s m args below meth c hc hr hin
  have hA : ∀ q : Nat, s.heap.size ≤ q → va_A [(h0, .inr (4, [.null, .int 0, .int 0, .null, .int 0, .int 0, .int 0]))] s.heap.size q := fun q h => Or.inr h
  refine V_st _ [(0, .ref h0), (1, .ref lg), (2, .int (nI K)), (3, .int x3), (4, .int x4)] _ rfl rfl rfl ?_
  refine V_aload_n hc d_X4_init_0 rfl 0 rfl ?_
  refine V_objInit hc k_203 k_18 k_19 d_X4_init_1 (by decide) (Nat.le_of_ble_eq_true rfl) ?_
  refine V_aload_n hc d_X4_init_4 rfl 0 rfl ?_
  refine V_iconst (v := (-1)) hc d_X4_init_5 (by decide) ?_
  refine V_put (X' := [(h0, .inr (4, [.null, .int 0, .int 0, .null, .int (-1), .int 0, .int 0]))]) (ty := .int) hc uin_X4 0 rfl rfl 4 (by decide) t_X4 t_X4_ok n_X4 k_213 rfl (by decide +kernel) rfl rfl (Nat.le_of_ble_eq_true rfl) rfl d_X4_init_6 ?_
  refine V_aload_n hc d_X4_init_9 rfl 0 rfl ?_
  refine V_iconst (v := (-1)) hc d_X4_init_10 (by decide) ?_
  refine V_put (X' := [(h0, .inr (4, [.null, .int 0, .int 0, .null, .int (-1), .int (-1), .int 0]))]) (ty := .int) hc uin_X4 0 rfl rfl 5 (by decide) t_X4 t_X4_ok n_X4 k_214 rfl (by decide +kernel) rfl rfl (Nat.le_of_ble_eq_true rfl) rfl d_X4_init_11 ?_
  refine V_aload_n hc d_X4_init_14 rfl 0 rfl ?_
  refine V_iconst (v := 0) hc d_X4_init_15 (by decide) ?_
  refine V_put (X' := [(h0, .inr (4, [.null, .int 0, .int 0, .null, .int (-1), .int (-1), .int 0]))]) (ty := .int) hc uin_X4 0 rfl rfl 6 (by decide) t_X4 t_X4_ok n_X4 k_216 rfl (by decide +kernel) rfl rfl (Nat.le_of_ble_eq_true rfl) rfl d_X4_init_16 ?_
  refine V_aload_n hc d_X4_init_19 rfl 0 rfl ?_
  refine V_aload_n hc d_X4_init_20 rfl 1 rfl ?_
  refine V_putF (X' := [(h0, .inr (4, [.ref lg, .int 0, .int 0, .null, .int (-1), .int (-1), .int 0]))]) (ty := .object "ChangeFeed$Log") hc uin_X4 0 rfl rfl 0 (by decide) t_X4 t_X4_ok n_X4 k_208 rfl hin rfl (by decide +kernel) rfl rfl (Nat.le_of_ble_eq_true rfl) rfl d_X4_init_21 ?_
  refine V_aload_n hc d_X4_init_24 rfl 0 rfl ?_
  refine V_iload_n hc d_X4_init_25 rfl 3 rfl ?_
  refine V_putF (X' := [(h0, .inr (4, [.ref lg, .int x3, .int 0, .null, .int (-1), .int (-1), .int 0]))]) (ty := .int) hc uin_X4 0 rfl rfl 1 (by decide) t_X4 t_X4_ok n_X4 k_209 rfl hin rfl (by decide +kernel) rfl rfl (Nat.le_of_ble_eq_true rfl) rfl d_X4_init_26 ?_
  refine V_aload_n hc d_X4_init_29 rfl 0 rfl ?_
  refine V_iload hc d_X4_init_30 4 rfl ?_
  refine V_putF (X' := [(h0, .inr (4, [.ref lg, .int x3, .int x4, .null, .int (-1), .int (-1), .int 0]))]) (ty := .int) hc uin_X4 0 rfl rfl 2 (by decide) t_X4 t_X4_ok n_X4 k_210 rfl hin rfl (by decide +kernel) rfl rfl (Nat.le_of_ble_eq_true rfl) rfl d_X4_init_32 ?_
  refine V_aload_n hc d_X4_init_35 rfl 0 rfl ?_
  refine V_iload_n hc d_X4_init_36 rfl 2 rfl ?_
  refine V_newa (atype := .long) (ty := .long) (a0 := (K, .inr (.inl (fun _ => 0)))) hc k_61 rfl 1 rfl (fun _ _ h => h) hA (fun _ => rfl) (nI_pos (by omega)) (nI_clamp (by omega)) (by show K * 8 ≤ 536870912; omega) (by simp only []; omega) (by simp only []; omega) d_X4_init_37 (fun q1 => ?_)
  refine V_st [(h0, .inr (4, [.ref lg, .int x3, .int x4, .null, .int (-1), .int (-1), .int 0])), (q1, .inl (cA 1, K, .inr (.inl (fun _ => 0))))] _ _ rfl rfl rfl ?_
  refine V_putF (X' := [(h0, .inr (4, [.ref lg, .int x3, .int x4, .ref q1, .int (-1), .int (-1), .int 0])), (q1, .inl (cA 1, K, .inr (.inl (fun _ => 0))))]) (ty := .array .long) hc uin_X4 0 rfl rfl 3 (by decide) t_X4 t_X4_ok n_X4 k_211 rfl hin rfl (by decide +kernel) rfl rfl (Nat.le_of_ble_eq_true rfl) rfl d_X4_init_39 ?_
  refine V_aload_n hc d_X4_init_42 rfl 0 rfl ?_
  refine V_get (v := .ref q1) hc uin_X4 0 rfl rfl 3 (by decide) k_211 rfl d_X4_init_43 ?_
  refine V_ldc2 (v := (-1)) hc k_204 d_X4_init_46 ?_
  refine V_callKS (As := [.ref q1, .long (-1)]) (st := []) hc TS_good NS_nest hA (c_J0_fill l cA D q1 K hK (fun _ => 0)) [1] [0] rfl (wr := [(h0, .inr (4, [.ref lg, .int x3, .int x4, .ref q1, .int (-1), .int (-1), .int 0]))]) rfl (by decide) (by decide) (by decide) k_205 k_9 k_207 k_206 q_J0_fill (by decide) (by simp only []; omega) (by simp only []; omega) rfl (Nat.le_of_ble_eq_true rfl) d_X4_init_49 (fun b2 z2 hz2 => ?_)
  refine V_st [(h0, .inr (4, [.ref lg, .int x3, .int x4, .ref q1, .int (-1), .int (-1), .int 0])), (q1, .inl (cA 1, K, .inr (.inl (g_L z2 5))))] _ _ rfl rfl rfl ?_
  refine V_widen (k := 1) (n := 12) (by omega) (by omega) ?_
  exact V_cret hc NS_nest hr (fun _ => q1) (fun k => ([0, 0, 0, 0, 0, 0, 0, 0, 0, 0, 0, 0, 0, 0, x3, x4, (-1), (-1), 0] : List Int32).getD k 0, fun k => ([fun _ => 0] : List (Nat → Int32)).getD k (fun _ => 0), fun k => ([fun _ => 0, fun _ => 0, fun _ => 0, g_L z2 5] : List (Nat → Int64)).getD k (fun _ => 0)) rfl ⟨rfl, rfl, rfl, rfl, rfl, hz2⟩ d_X4_init_52
set_option maxHeartbeats 4000000 in
set_option maxRecDepth 100000 in
theorem c_X3_init (l : Launch) (cA : Nat → ClassId) (D : va_G) (h0 lg sr ch : Nat) (K : Nat) (hK0 : 1 ≤ K) (hK : K ≤ 12) (x5 x6 : Int32) : Ck l NS CL D (tyX cA) y_X3_init (.code y_X3_init b_X3_init 7 none :: TS) { frames := 2, cells := 7, slots := 60, locals := 40 } [.ref h0, .ref lg, .ref sr, .ref ch, .int (nI K), .int x5, .int x6] [(h0, .inr (3, [.null, .null, .null, .int 0, .int 0, .int 0, .null, .null, .null, .null, .null, .int 0, .int 0, .int 0, .int 0, .int 0, .int 0]))] 7 60 (fun z => g_I z 5 = nI K ∧ g_I z 6 = x5 ∧ g_I z 7 = x6 ∧ g_I z 8 = 0 ∧ g_I z 9 = 0 ∧ g_I z 10 = -1 ∧ g_I z 11 = -1 ∧ g_I z 12 = 0 ∧ g_I z 13 = 0 ∧ g_I z 20 = 0 ∧ g_I z 21 = -1 ∧ g_I z 22 = -1 ∧ g_L z 2 = (fun _ => 0) ∧ g_A z 3 = (fun _ => 0) ∧ g_A z 4 = (fun _ => 0) ∧ g_A z 5 = (fun _ => 0) ∧ g_L z 5 = (fun _ => 0) ∧ g_A z 9 = (fun _ => 0)) (fun b z => [(h0, .inr (3, [.ref lg, .ref sr, .ref ch, .int (g_I z 5), .int (g_I z 6), .int (g_I z 7), .ref (b 0), .ref (b 1), .ref (b 2), .ref (b 3), .ref (b 4), .int (g_I z 8), .int (g_I z 9), .int (g_I z 10), .int (g_I z 11), .int (g_I z 12), .int (g_I z 13)])), (b 0, .inr (6, [.ref (b 5), .ref (b 6), .int (g_I z 20), .int (g_I z 21), .int (g_I z 22)])), (b 1, .inl (cA 1, K, .inr (.inl (g_L z 2)))), (b 2, .inl (cA 0, 4, .inl (g_A z 3))), (b 3, .inl (cA 0, 4, .inl (g_A z 4))), (b 4, .inl (cA 0, 4, .inl (g_A z 5))), (b 5, .inl (cA 1, K, .inr (.inl (g_L z 5)))), (b 6, .inl (cA 2, K, .inl (g_A z 9)))]) := by
  refine Ck.of (by decide) (Nat.le_of_ble_eq_true rfl) ?_
  intro p e s m args below meth c hc hr hin
  have hA : ∀ q : Nat, s.heap.size ≤ q → va_A [(h0, .inr (3, [.null, .null, .null, .int 0, .int 0, .int 0, .null, .null, .null, .null, .null, .int 0, .int 0, .int 0, .int 0, .int 0, .int 0]))] s.heap.size q := fun q h => Or.inr h
  refine V_st _ [(0, .ref h0), (1, .ref lg), (2, .ref sr), (3, .ref ch), (4, .int (nI K)), (5, .int x5), (6, .int x6)] _ rfl rfl rfl ?_
  refine V_aload_n hc d_X3_init_0 rfl 0 rfl ?_
  refine V_objInit hc k_118 k_18 k_19 d_X3_init_1 (by decide) (Nat.le_of_ble_eq_true rfl) ?_
  refine V_aload_n hc d_X3_init_4 rfl 0 rfl ?_
  refine V_iconst (v := 4) hc d_X3_init_5 (by decide) ?_
  refine V_newa (atype := .int) (ty := .int) (a0 := (4, .inl (fun _ => 0))) hc k_60 rfl 0 rfl (fun _ _ h => h) hA (fun _ => rfl) (by decide) (by decide) (by decide) (by simp only []; omega) (by simp only []; omega) d_X3_init_6 (fun q1 => ?_)
  refine V_st [(h0, .inr (3, [.null, .null, .null, .int 0, .int 0, .int 0, .null, .null, .null, .null, .null, .int 0, .int 0, .int 0, .int 0, .int 0, .int 0])), (q1, .inl (cA 0, 4, .inl (fun _ => 0)))] _ _ rfl rfl rfl ?_
  refine V_putF (X' := [(h0, .inr (3, [.null, .null, .null, .int 0, .int 0, .int 0, .null, .null, .ref q1, .null, .null, .int 0, .int 0, .int 0, .int 0, .int 0, .int 0])), (q1, .inl (cA 0, 4, .inl (fun _ => 0)))]) (ty := .array .int) hc uin_X3 0 rfl rfl 8 (by decide) t_X3 t_X3_ok n_X3 k_153 rfl hin rfl (by decide +kernel) rfl rfl (Nat.le_of_ble_eq_true rfl) rfl d_X3_init_8 ?_
  refine V_aload_n hc d_X3_init_11 rfl 0 rfl ?_
  refine V_iconst (v := 4) hc d_X3_init_12 (by decide) ?_
  refine V_newa (atype := .int) (ty := .int) (a0 := (4, .inl (fun _ => 0))) hc k_60 rfl 0 rfl (fun _ _ h => h) hA (fun _ => rfl) (by decide) (by decide) (by decide) (by simp only []; omega) (by simp only []; omega) d_X3_init_13 (fun q2 => ?_)
  refine V_st [(h0, .inr (3, [.null, .null, .null, .int 0, .int 0, .int 0, .null, .null, .ref q1, .null, .null, .int 0, .int 0, .int 0, .int 0, .int 0, .int 0])), (q1, .inl (cA 0, 4, .inl (fun _ => 0))), (q2, .inl (cA 0, 4, .inl (fun _ => 0)))] _ _ rfl rfl rfl ?_
  refine V_putF (X' := [(h0, .inr (3, [.null, .null, .null, .int 0, .int 0, .int 0, .null, .null, .ref q1, .ref q2, .null, .int 0, .int 0, .int 0, .int 0, .int 0, .int 0])), (q1, .inl (cA 0, 4, .inl (fun _ => 0))), (q2, .inl (cA 0, 4, .inl (fun _ => 0)))]) (ty := .array .int) hc uin_X3 0 rfl rfl 9 (by decide) t_X3 t_X3_ok n_X3 k_154 rfl hin rfl (by decide +kernel) rfl rfl (Nat.le_of_ble_eq_true rfl) rfl d_X3_init_15 ?_
  refine V_aload_n hc d_X3_init_18 rfl 0 rfl ?_
  refine V_iconst (v := 4) hc d_X3_init_19 (by decide) ?_
  refine V_newa (atype := .int) (ty := .int) (a0 := (4, .inl (fun _ => 0))) hc k_60 rfl 0 rfl (fun _ _ h => h) hA (fun _ => rfl) (by decide) (by decide) (by decide) (by simp only []; omega) (by simp only []; omega) d_X3_init_20 (fun q3 => ?_)
  refine V_st [(h0, .inr (3, [.null, .null, .null, .int 0, .int 0, .int 0, .null, .null, .ref q1, .ref q2, .null, .int 0, .int 0, .int 0, .int 0, .int 0, .int 0])), (q1, .inl (cA 0, 4, .inl (fun _ => 0))), (q2, .inl (cA 0, 4, .inl (fun _ => 0))), (q3, .inl (cA 0, 4, .inl (fun _ => 0)))] _ _ rfl rfl rfl ?_
  refine V_putF (X' := [(h0, .inr (3, [.null, .null, .null, .int 0, .int 0, .int 0, .null, .null, .ref q1, .ref q2, .ref q3, .int 0, .int 0, .int 0, .int 0, .int 0, .int 0])), (q1, .inl (cA 0, 4, .inl (fun _ => 0))), (q2, .inl (cA 0, 4, .inl (fun _ => 0))), (q3, .inl (cA 0, 4, .inl (fun _ => 0)))]) (ty := .array .int) hc uin_X3 0 rfl rfl 10 (by decide) t_X3 t_X3_ok n_X3 k_155 rfl hin rfl (by decide +kernel) rfl rfl (Nat.le_of_ble_eq_true rfl) rfl d_X3_init_22 ?_
  refine V_aload_n hc d_X3_init_25 rfl 0 rfl ?_
  refine V_iconst (v := 0) hc d_X3_init_26 (by decide) ?_
  refine V_put (X' := [(h0, .inr (3, [.null, .null, .null, .int 0, .int 0, .int 0, .null, .null, .ref q1, .ref q2, .ref q3, .int 0, .int 0, .int 0, .int 0, .int 0, .int 0])), (q1, .inl (cA 0, 4, .inl (fun _ => 0))), (q2, .inl (cA 0, 4, .inl (fun _ => 0))), (q3, .inl (cA 0, 4, .inl (fun _ => 0)))]) (ty := .int) hc uin_X3 0 rfl rfl 11 (by decide) t_X3 t_X3_ok n_X3 k_156 rfl (by decide +kernel) rfl rfl (Nat.le_of_ble_eq_true rfl) rfl d_X3_init_27 ?_
  refine V_aload_n hc d_X3_init_30 rfl 0 rfl ?_
  refine V_iconst (v := 0) hc d_X3_init_31 (by decide) ?_
  refine V_put (X' := [(h0, .inr (3, [.null, .null, .null, .int 0, .int 0, .int 0, .null, .null, .ref q1, .ref q2, .ref q3, .int 0, .int 0, .int 0, .int 0, .int 0, .int 0])), (q1, .inl (cA 0, 4, .inl (fun _ => 0))), (q2, .inl (cA 0, 4, .inl (fun _ => 0))), (q3, .inl (cA 0, 4, .inl (fun _ => 0)))]) (ty := .int) hc uin_X3 0 rfl rfl 12 (by decide) t_X3 t_X3_ok n_X3 k_158 rfl (by decide +kernel) rfl rfl (Nat.le_of_ble_eq_true rfl) rfl d_X3_init_32 ?_
  refine V_aload_n hc d_X3_init_35 rfl 0 rfl ?_
  refine V_iconst (v := (-1)) hc d_X3_init_36 (by decide) ?_
  refine V_put (X' := [(h0, .inr (3, [.null, .null, .null, .int 0, .int 0, .int 0, .null, .null, .ref q1, .ref q2, .ref q3, .int 0, .int 0, .int (-1), .int 0, .int 0, .int 0])), (q1, .inl (cA 0, 4, .inl (fun _ => 0))), (q2, .inl (cA 0, 4, .inl (fun _ => 0))), (q3, .inl (cA 0, 4, .inl (fun _ => 0)))]) (ty := .int) hc uin_X3 0 rfl rfl 13 (by decide) t_X3 t_X3_ok n_X3 k_159 rfl (by decide +kernel) rfl rfl (Nat.le_of_ble_eq_true rfl) rfl d_X3_init_37 ?_
  refine V_aload_n hc d_X3_init_40 rfl 0 rfl ?_
  refine V_iconst (v := (-1)) hc d_X3_init_41 (by decide) ?_
  refine V_put (X' := [(h0, .inr (3, [.null, .null, .null, .int 0, .int 0, .int 0, .null, .null, .ref q1, .ref q2, .ref q3, .int 0, .int 0, .int (-1), .int (-1), .int 0, .int 0])), (q1, .inl (cA 0, 4, .inl (fun _ => 0))), (q2, .inl (cA 0, 4, .inl (fun _ => 0))), (q3, .inl (cA 0, 4, .inl (fun _ => 0)))]) (ty := .int) hc uin_X3 0 rfl rfl 14 (by decide) t_X3 t_X3_ok n_X3 k_160 rfl (by decide +kernel) rfl rfl (Nat.le_of_ble_eq_true rfl) rfl d_X3_init_42 ?_
  refine V_aload_n hc d_X3_init_45 rfl 0 rfl ?_
  refine V_iconst (v := 0) hc d_X3_init_46 (by decide) ?_
  refine V_put (X' := [(h0, .inr (3, [.null, .null, .null, .int 0, .int 0, .int 0, .null, .null, .ref q1, .ref q2, .ref q3, .int 0, .int 0, .int (-1), .int (-1), .int 0, .int 0])), (q1, .inl (cA 0, 4, .inl (fun _ => 0))), (q2, .inl (cA 0, 4, .inl (fun _ => 0))), (q3, .inl (cA 0, 4, .inl (fun _ => 0)))]) (ty := .int) hc uin_X3 0 rfl rfl 15 (by decide) t_X3 t_X3_ok n_X3 k_161 rfl (by decide +kernel) rfl rfl (Nat.le_of_ble_eq_true rfl) rfl d_X3_init_47 ?_
  refine V_aload_n hc d_X3_init_50 rfl 0 rfl ?_
  refine V_iconst (v := 0) hc d_X3_init_51 (by decide) ?_
  refine V_put (X' := [(h0, .inr (3, [.null, .null, .null, .int 0, .int 0, .int 0, .null, .null, .ref q1, .ref q2, .ref q3, .int 0, .int 0, .int (-1), .int (-1), .int 0, .int 0])), (q1, .inl (cA 0, 4, .inl (fun _ => 0))), (q2, .inl (cA 0, 4, .inl (fun _ => 0))), (q3, .inl (cA 0, 4, .inl (fun _ => 0)))]) (ty := .int) hc uin_X3 0 rfl rfl 16 (by decide) t_X3 t_X3_ok n_X3 k_162 rfl (by decide +kernel) rfl rfl (Nat.le_of_ble_eq_true rfl) rfl d_X3_init_52 ?_
  refine V_aload_n hc d_X3_init_55 rfl 0 rfl ?_
  refine V_aload_n hc d_X3_init_56 rfl 1 rfl ?_
  refine V_putF (X' := [(h0, .inr (3, [.ref lg, .null, .null, .int 0, .int 0, .int 0, .null, .null, .ref q1, .ref q2, .ref q3, .int 0, .int 0, .int (-1), .int (-1), .int 0, .int 0])), (q1, .inl (cA 0, 4, .inl (fun _ => 0))), (q2, .inl (cA 0, 4, .inl (fun _ => 0))), (q3, .inl (cA 0, 4, .inl (fun _ => 0)))]) (ty := .object "ChangeFeed$Log") hc uin_X3 0 rfl rfl 0 (by decide) t_X3 t_X3_ok n_X3 k_144 rfl hin rfl (by decide +kernel) rfl rfl (Nat.le_of_ble_eq_true rfl) rfl d_X3_init_57 ?_
  refine V_aload_n hc d_X3_init_60 rfl 0 rfl ?_
  refine V_aload_n hc d_X3_init_61 rfl 2 rfl ?_
  refine V_putF (X' := [(h0, .inr (3, [.ref lg, .ref sr, .null, .int 0, .int 0, .int 0, .null, .null, .ref q1, .ref q2, .ref q3, .int 0, .int 0, .int (-1), .int (-1), .int 0, .int 0])), (q1, .inl (cA 0, 4, .inl (fun _ => 0))), (q2, .inl (cA 0, 4, .inl (fun _ => 0))), (q3, .inl (cA 0, 4, .inl (fun _ => 0)))]) (ty := .object "ChangeFeed$Source") hc uin_X3 0 rfl rfl 1 (by decide) t_X3 t_X3_ok n_X3 k_145 rfl hin rfl (by decide +kernel) rfl rfl (Nat.le_of_ble_eq_true rfl) rfl d_X3_init_62 ?_
  refine V_aload_n hc d_X3_init_65 rfl 0 rfl ?_
  refine V_aload_n hc d_X3_init_66 rfl 3 rfl ?_
  refine V_putF (X' := [(h0, .inr (3, [.ref lg, .ref sr, .ref ch, .int 0, .int 0, .int 0, .null, .null, .ref q1, .ref q2, .ref q3, .int 0, .int 0, .int (-1), .int (-1), .int 0, .int 0])), (q1, .inl (cA 0, 4, .inl (fun _ => 0))), (q2, .inl (cA 0, 4, .inl (fun _ => 0))), (q3, .inl (cA 0, 4, .inl (fun _ => 0)))]) (ty := .object "ChangeFeed$Channel") hc uin_X3 0 rfl rfl 2 (by decide) t_X3 t_X3_ok n_X3 k_146 rfl hin rfl (by decide +kernel) rfl rfl (Nat.le_of_ble_eq_true rfl) rfl d_X3_init_67 ?_
  refine V_aload_n hc d_X3_init_70 rfl 0 rfl ?_
  refine V_iload hc d_X3_init_71 4 rfl ?_
  refine V_putF (X' := [(h0, .inr (3, [.ref lg, .ref sr, .ref ch, .int (nI K), .int 0, .int 0, .null, .null, .ref q1, .ref q2, .ref q3, .int 0, .int 0, .int (-1), .int (-1), .int 0, .int 0])), (q1, .inl (cA 0, 4, .inl (fun _ => 0))), (q2, .inl (cA 0, 4, .inl (fun _ => 0))), (q3, .inl (cA 0, 4, .inl (fun _ => 0)))]) (ty := .int) hc uin_X3 0 rfl rfl 3 (by decide) t_X3 t_X3_ok n_X3 k_147 rfl hin rfl (by decide +kernel) rfl rfl (Nat.le_of_ble_eq_true rfl) rfl d_X3_init_73 ?_
  refine V_aload_n hc d_X3_init_76 rfl 0 rfl ?_
  refine V_iload hc d_X3_init_77 5 rfl ?_
  refine V_putF (X' := [(h0, .inr (3, [.ref lg, .ref sr, .ref ch, .int (nI K), .int x5, .int 0, .null, .null, .ref q1, .ref q2, .ref q3, .int 0, .int 0, .int (-1), .int (-1), .int 0, .int 0])), (q1, .inl (cA 0, 4, .inl (fun _ => 0))), (q2, .inl (cA 0, 4, .inl (fun _ => 0))), (q3, .inl (cA 0, 4, .inl (fun _ => 0)))]) (ty := .int) hc uin_X3 0 rfl rfl 4 (by decide) t_X3 t_X3_ok n_X3 k_148 rfl hin rfl (by decide +kernel) rfl rfl (Nat.le_of_ble_eq_true rfl) rfl d_X3_init_79 ?_
  refine V_aload_n hc d_X3_init_82 rfl 0 rfl ?_
  refine V_iload hc d_X3_init_83 6 rfl ?_
  refine V_putF (X' := [(h0, .inr (3, [.ref lg, .ref sr, .ref ch, .int (nI K), .int x5, .int x6, .null, .null, .ref q1, .ref q2, .ref q3, .int 0, .int 0, .int (-1), .int (-1), .int 0, .int 0])), (q1, .inl (cA 0, 4, .inl (fun _ => 0))), (q2, .inl (cA 0, 4, .inl (fun _ => 0))), (q3, .inl (cA 0, 4, .inl (fun _ => 0)))]) (ty := .int) hc uin_X3 0 rfl rfl 5 (by decide) t_X3 t_X3_ok n_X3 k_149 rfl hin rfl (by decide +kernel) rfl rfl (Nat.le_of_ble_eq_true rfl) rfl d_X3_init_85 ?_
  refine V_aload_n hc d_X3_init_88 rfl 0 rfl ?_
  refine V_new (ci := 6) (fs := [.null, .null, .int 0, .int 0, .int 0]) hc uin_X6 t_X6 t_X6_ok k_119 k_120 k_7 hA rfl (dv_X6) (by simp only []; omega) (by simp only []; omega) d_X3_init_89 (fun q4 => ?_)
  refine V_st [(h0, .inr (3, [.ref lg, .ref sr, .ref ch, .int (nI K), .int x5, .int x6, .null, .null, .ref q1, .ref q2, .ref q3, .int 0, .int 0, .int (-1), .int (-1), .int 0, .int 0])), (q1, .inl (cA 0, 4, .inl (fun _ => 0))), (q2, .inl (cA 0, 4, .inl (fun _ => 0))), (q3, .inl (cA 0, 4, .inl (fun _ => 0))), (q4, .inr (6, [.null, .null, .int 0, .int 0, .int 0]))] _ _ rfl rfl rfl ?_
  refine V_dup hc d_X3_init_92 rfl ?_
  refine V_iload hc d_X3_init_93 4 rfl ?_
  refine V_callKI (As := [.int (nI K)]) (st := [.ref q4, .ref h0]) hc TS_good NS_nest hA (c_X6_init l cA D q4 K hK0 hK) [4] [0, 1, 2, 3] rfl (wr := [(h0, .inr (3, [.ref lg, .ref sr, .ref ch, .int (nI K), .int x5, .int x6, .null, .null, .ref q1, .ref q2, .ref q3, .int 0, .int 0, .int (-1), .int (-1), .int 0, .int 0])), (q1, .inl (cA 0, 4, .inl (fun _ => 0))), (q2, .inl (cA 0, 4, .inl (fun _ => 0))), (q3, .inl (cA 0, 4, .inl (fun _ => 0)))]) rfl (by decide) (by decide) (by decide) k_121 k_7 k_123 rfl k_122 q_X6_init (by decide) (by simp only []; omega) (by simp only []; omega) rfl (Nat.le_of_ble_eq_true rfl) d_X3_init_95 (fun b5 z5 hz5 => ?_)
  refine V_st [(h0, .inr (3, [.ref lg, .ref sr, .ref ch, .int (nI K), .int x5, .int x6, .null, .null, .ref q1, .ref q2, .ref q3, .int 0, .int 0, .int (-1), .int (-1), .int 0, .int 0])), (q1, .inl (cA 0, 4, .inl (fun _ => 0))), (q2, .inl (cA 0, 4, .inl (fun _ => 0))), (q3, .inl (cA 0, 4, .inl (fun _ => 0))), (q4, .inr (6, [.ref (b5 0), .ref (b5 1), .int (g_I z5 20), .int (g_I z5 21), .int (g_I z5 22)])), ((b5 0), .inl (cA 1, K, .inr (.inl (g_L z5 5)))), ((b5 1), .inl (cA 2, K, .inl (g_A z5 9)))] _ _ rfl rfl rfl ?_
  refine V_putF (X' := [(h0, .inr (3, [.ref lg, .ref sr, .ref ch, .int (nI K), .int x5, .int x6, .ref q4, .null, .ref q1, .ref q2, .ref q3, .int 0, .int 0, .int (-1), .int (-1), .int 0, .int 0])), (q1, .inl (cA 0, 4, .inl (fun _ => 0))), (q2, .inl (cA 0, 4, .inl (fun _ => 0))), (q3, .inl (cA 0, 4, .inl (fun _ => 0))), (q4, .inr (6, [.ref (b5 0), .ref (b5 1), .int (g_I z5 20), .int (g_I z5 21), .int (g_I z5 22)])), ((b5 0), .inl (cA 1, K, .inr (.inl (g_L z5 5)))), ((b5 1), .inl (cA 2, K, .inl (g_A z5 9)))]) (ty := .object "ChangeFeed$ChunkWork") hc uin_X3 0 rfl rfl 6 (by decide) t_X3 t_X3_ok n_X3 k_150 rfl hin rfl (by decide +kernel) rfl rfl (Nat.le_of_ble_eq_true rfl) rfl d_X3_init_98 ?_
  refine V_aload_n hc d_X3_init_101 rfl 0 rfl ?_
  refine V_iload hc d_X3_init_102 4 rfl ?_
  refine V_newa (atype := .long) (ty := .long) (a0 := (K, .inr (.inl (fun _ => 0)))) hc k_61 rfl 1 rfl (fun _ _ h => h) hA (fun _ => rfl) (nI_pos (by omega)) (nI_clamp (by omega)) (by show K * 8 ≤ 536870912; omega) (by simp only []; omega) (by simp only []; omega) d_X3_init_104 (fun q6 => ?_)
  refine V_st [(h0, .inr (3, [.ref lg, .ref sr, .ref ch, .int (nI K), .int x5, .int x6, .ref q4, .null, .ref q1, .ref q2, .ref q3, .int 0, .int 0, .int (-1), .int (-1), .int 0, .int 0])), (q1, .inl (cA 0, 4, .inl (fun _ => 0))), (q2, .inl (cA 0, 4, .inl (fun _ => 0))), (q3, .inl (cA 0, 4, .inl (fun _ => 0))), (q4, .inr (6, [.ref (b5 0), .ref (b5 1), .int (g_I z5 20), .int (g_I z5 21), .int (g_I z5 22)])), ((b5 0), .inl (cA 1, K, .inr (.inl (g_L z5 5)))), ((b5 1), .inl (cA 2, K, .inl (g_A z5 9))), (q6, .inl (cA 1, K, .inr (.inl (fun _ => 0))))] _ _ rfl rfl rfl ?_
  refine V_putF (X' := [(h0, .inr (3, [.ref lg, .ref sr, .ref ch, .int (nI K), .int x5, .int x6, .ref q4, .ref q6, .ref q1, .ref q2, .ref q3, .int 0, .int 0, .int (-1), .int (-1), .int 0, .int 0])), (q1, .inl (cA 0, 4, .inl (fun _ => 0))), (q2, .inl (cA 0, 4, .inl (fun _ => 0))), (q3, .inl (cA 0, 4, .inl (fun _ => 0))), (q4, .inr (6, [.ref (b5 0), .ref (b5 1), .int (g_I z5 20), .int (g_I z5 21), .int (g_I z5 22)])), ((b5 0), .inl (cA 1, K, .inr (.inl (g_L z5 5)))), ((b5 1), .inl (cA 2, K, .inl (g_A z5 9))), (q6, .inl (cA 1, K, .inr (.inl (fun _ => 0))))]) (ty := .array .long) hc uin_X3 0 rfl rfl 7 (by decide) t_X3 t_X3_ok n_X3 k_151 rfl hin rfl (by decide +kernel) rfl rfl (Nat.le_of_ble_eq_true rfl) rfl d_X3_init_106 ?_
  refine V_perm [0, 4, 7, 1, 2, 3, 5, 6] [(h0, .inr (3, [.ref lg, .ref sr, .ref ch, .int (nI K), .int x5, .int x6, .ref q4, .ref q6, .ref q1, .ref q2, .ref q3, .int 0, .int 0, .int (-1), .int (-1), .int 0, .int 0])), (q4, .inr (6, [.ref (b5 0), .ref (b5 1), .int (g_I z5 20), .int (g_I z5 21), .int (g_I z5 22)])), (q6, .inl (cA 1, K, .inr (.inl (fun _ => 0)))), (q1, .inl (cA 0, 4, .inl (fun _ => 0))), (q2, .inl (cA 0, 4, .inl (fun _ => 0))), (q3, .inl (cA 0, 4, .inl (fun _ => 0))), ((b5 0), .inl (cA 1, K, .inr (.inl (g_L z5 5)))), ((b5 1), .inl (cA 2, K, .inl (g_A z5 9)))] rfl (by decide) ?_
  obtain ⟨e0, e1, e2, e3, e4⟩ := hz5
  refine V_widen (k := 7) (n := 60) (by omega) (by omega) ?_
  exact V_cret hc NS_nest hr (fun k => ([q4, q6, q1, q2, q3, b5 0, b5 1] : List Nat).getD k 0) (fun k => ([0, 0, 0, 0, 0, nI K, x5, x6, 0, 0, (-1), (-1), 0, 0, 0, 0, 0, 0, 0, 0, g_I z5 20, g_I z5 21, g_I z5 22] : List Int32).getD k 0, fun k => ([fun _ => 0, fun _ => 0, fun _ => 0, fun _ => 0, fun _ => 0, fun _ => 0, fun _ => 0, fun _ => 0, fun _ => 0, g_A z5 9] : List (Nat → Int32)).getD k (fun _ => 0), fun k => ([fun _ => 0, fun _ => 0, fun _ => 0, fun _ => 0, fun _ => 0, g_L z5 5] : List (Nat → Int64)).getD k (fun _ => 0)) rfl ⟨rfl, rfl, rfl, rfl, rfl, rfl, rfl, rfl, rfl, e2, e3, e4, rfl, rfl, rfl, rfl, e0, e1⟩ d_X3_init_109
def cw_ (m x : Int32) : Int32 := if 1 < (if x < m then x else m) then (if x < m then x else m) else 1
def InitX (K : Nat) (ch to le : Int32) (z : St) : Prop :=
  g_I z 0 = nI K ∧ g_I z 1 = 0 ∧ g_I z 2 = 0 ∧ g_I z 3 = 0 ∧ g_I z 4 = 0 ∧ g_I z 5 = nI K ∧ g_I z 6 = ch ∧ g_I z 7 = to ∧ g_I z 8 = 0 ∧ g_I z 9 = 0 ∧ g_I z 10 = -1 ∧ g_I z 11 = -1 ∧ g_I z 12 = 0 ∧ g_I z 13 = 0 ∧ g_I z 14 = ch ∧ g_I z 15 = le ∧ g_I z 16 = -1 ∧ g_I z 17 = -1 ∧ g_I z 18 = 0 ∧ g_I z 19 = 0 ∧ g_I z 20 = 0 ∧ g_I z 21 = -1 ∧ g_I z 22 = -1 ∧ g_A z 2 = (fun _ => 0) ∧ g_L z 2 = (fun _ => 0) ∧ g_A z 3 = (fun _ => 0) ∧ g_A z 4 = (fun _ => 0) ∧ g_A z 5 = (fun _ => 0) ∧ g_A z 6 = (fun _ => 0) ∧ g_A z 7 = (fun _ => 0) ∧ g_A z 8 = (fun _ => 0) ∧ g_L z 4 = (fun _ => 0) ∧ g_L z 5 = (fun _ => 0) ∧ g_A z 9 = (fun _ => 0) ∧ g_A z 1 = (fun _ => 0) ∧ (∀ j, j < K → g_L z 0 j = row0 (nI j) ∧ g_A z 0 j = -1 ∧ g_L z 1 j = -2) ∧ (∀ j, j < K → g_L z 3 j = -1)
set_option maxHeartbeats 4000000 in
set_option maxRecDepth 100000 in
theorem c_X0_init (l : Launch) (cA : Nat → ClassId) (D : va_G) (h0 : Nat) (K : Nat) (hK0 : 1 ≤ K) (hK : K ≤ 12) (x1 x2 x3 x4 : Int32) (hx : cw_ 12 x1 = nI K) : Ck l NS CL D (tyX cA) y_X0_init (.code y_X0_init b_X0_init 7 none :: TS) { frames := 3, cells := 22, slots := 860, locals := 66 } [.ref h0, .int x1, .int x2, .int x3, .int x4] [(h0, .inr (0, [.int 0, .null, .null, .null, .null]))] 22 860 (fun z => InitX K (cw_ 6 x2) (cw_ 20 x3) x4 z) (fun b z => WX K cA (fun k => if k = 0 then h0 else b k) z) := by
  refine Ck.of (by decide) (Nat.le_of_ble_eq_true rfl) ?_
  intro p e s m args below meth c hc hr hin
  have hA : ∀ q : Nat, s.heap.size ≤ q → va_A [(h0, .inr (0, [.int 0, .null, .null, .null, .null]))] s.heap.size q := fun q h => Or.inr h
  refine V_st _ [(0, .ref h0), (1, .int x1), (2, .int x2), (3, .int x3), (4, .int x4)] _ rfl rfl rfl ?_
  refine V_aload_n hc d_X0_init_0 rfl 0 rfl ?_
  refine V_objInit hc k_17 k_18 k_19 d_X0_init_1 (by decide) (Nat.le_of_ble_eq_true rfl) ?_
  refine V_aload_n hc d_X0_init_4 rfl 0 rfl ?_
  refine V_iload_n hc d_X0_init_5 rfl 1 rfl ?_
  refine V_bipush (v := 12) hc d_X0_init_6 (by decide) ?_
  refine V_callSi (b := 0) (As := [.int x1, .int 12]) (st := [.ref h0]) hc TS_good NS_nest hA (c_X0_within l K cA D (fun _ => 0) x1 12 (fun _ => 0, fun _ _ => 0, fun _ _ => 0)) k_20 k_1 k_22 k_21 q_X0_within (by decide) (by simp only []; omega) (by simp only []; omega) rfl (Nat.le_of_ble_eq_true rfl) d_X0_init_8 (Qr := fun r _ => r = cw_ 12 x1) (show cw_ 12 x1 = cw_ 12 x1 from rfl) (fun r1 u hw => ?_)
  rw [hx] at hw
  subst hw
  refine V_putF (X' := [(h0, .inr (0, [.int (nI K), .null, .null, .null, .null]))]) (ty := .int) hc uin_X0 0 rfl rfl 0 (by decide) t_X0 t_X0_ok n_X0 k_233 rfl hin rfl (by decide +kernel) rfl rfl (Nat.le_of_ble_eq_true rfl) rfl d_X0_init_11 ?_
  refine V_iload_n hc d_X0_init_14 rfl 2 rfl ?_
  refine V_bipush (v := 6) hc d_X0_init_15 (by decide) ?_
  refine V_callSi (b := 0) (As := [.int x2, .int 6]) (st := []) hc TS_good NS_nest hA (c_X0_within l K cA D (fun _ => 0) x2 6 (fun _ => 0, fun _ _ => 0, fun _ _ => 0)) k_20 k_1 k_22 k_21 q_X0_within (by decide) (by simp only []; omega) (by simp only []; omega) rfl (Nat.le_of_ble_eq_true rfl) d_X0_init_17 (Qr := fun r _ => r = cw_ 6 x2) (show cw_ 6 x2 = cw_ 6 x2 from rfl) (fun r2 u hw => ?_)
  subst hw
  refine V_istore hc [(5, .int (cw_ 6 x2)), (0, .ref h0), (1, .int x1), (2, .int x2), (3, .int x3), (4, .int x4)] d_X0_init_20 (by decide) rfl ?_
  refine V_new (ci := 5) (fs := [.null, .null, .null, .null, .int 0]) hc uin_X5 t_X5 t_X5_ok k_29 k_30 k_3 hA rfl (dv_X5) (by simp only []; omega) (by simp only []; omega) d_X0_init_22 (fun q3 => ?_)
  refine V_st [(h0, .inr (0, [.int (nI K), .null, .null, .null, .null])), (q3, .inr (5, [.null, .null, .null, .null, .int 0]))] _ _ rfl rfl rfl ?_
  refine V_dup hc d_X0_init_25 rfl ?_
  refine V_callKIN (As := []) (st := [.ref q3]) hc TS_good NS_nest hA (c_X5_init l cA D q3) [1] [0] rfl (wr := [(h0, .inr (0, [.int (nI K), .null, .null, .null, .null]))]) rfl (by decide) (by decide) (by decide) k_31 k_3 k_33 rfl k_32 q_X5_init (by decide) (by simp only []; omega) (by simp only []; omega) rfl (Nat.le_of_ble_eq_true rfl) d_X0_init_26 (fun b4 z4 hz4 => ?_)
  refine V_st [(h0, .inr (0, [.int (nI K), .null, .null, .null, .null])), (q3, .inr (5, [.ref (b4 0), .ref (b4 1), .ref (b4 2), .ref (b4 3), .int (g_I z4 19)])), ((b4 0), .inl (cA 0, 160, .inl (g_A z4 6))), ((b4 1), .inl (cA 0, 160, .inl (g_A z4 7))), ((b4 2), .inl (cA 0, 160, .inl (g_A z4 8))), ((b4 3), .inl (cA 1, 160, .inr (.inl (g_L z4 4))))] _ _ rfl rfl rfl ?_
  refine V_astore hc [(6, .ref q3), (5, .int (cw_ 6 x2)), (0, .ref h0), (1, .int x1), (2, .int x2), (3, .int x3), (4, .int x4)] d_X0_init_29 (by decide) rfl ?_
  refine V_aload_n hc d_X0_init_31 rfl 2 rfl ?_
  refine V_new (ci := 1) (fs := [.null, .null, .null, .null, .null, .int 0, .int 0]) hc uin_X1 t_X1 t_X1_ok k_62 k_63 k_4 hA rfl (dv_X1) (by simp only []; omega) (by simp only []; omega) d_X0_init_32 (fun q5 => ?_)
  refine V_st [(h0, .inr (0, [.int (nI K), .null, .null, .null, .null])), (q3, .inr (5, [.ref (b4 0), .ref (b4 1), .ref (b4 2), .ref (b4 3), .int (g_I z4 19)])), ((b4 0), .inl (cA 0, 160, .inl (g_A z4 6))), ((b4 1), .inl (cA 0, 160, .inl (g_A z4 7))), ((b4 2), .inl (cA 0, 160, .inl (g_A z4 8))), ((b4 3), .inl (cA 1, 160, .inr (.inl (g_L z4 4)))), (q5, .inr (1, [.null, .null, .null, .null, .null, .int 0, .int 0]))] _ _ rfl rfl rfl ?_
  refine V_dup hc d_X0_init_35 rfl ?_
  refine V_aload hc d_X0_init_36 0 rfl ?_
  refine V_aload_n hc d_X0_init_38 rfl 2 rfl ?_
  refine V_get (v := .int (nI K)) hc uin_X0 0 rfl rfl 0 (by decide) k_233 rfl d_X0_init_39 ?_
  refine V_callKI (As := [.ref q3, .int (nI K)]) (st := [.ref q5, .ref h0]) hc TS_good NS_nest hA (c_X1_init l cA D q5 q3 K hK0 hK) [6] [0, 1, 2, 3, 4, 5] rfl (wr := [(h0, .inr (0, [.int (nI K), .null, .null, .null, .null])), (q3, .inr (5, [.ref (b4 0), .ref (b4 1), .ref (b4 2), .ref (b4 3), .int (g_I z4 19)])), ((b4 0), .inl (cA 0, 160, .inl (g_A z4 6))), ((b4 1), .inl (cA 0, 160, .inl (g_A z4 7))), ((b4 2), .inl (cA 0, 160, .inl (g_A z4 8))), ((b4 3), .inl (cA 1, 160, .inr (.inl (g_L z4 4))))]) rfl (by decide) (by decide) (by decide) k_64 k_4 k_66 rfl k_65 q_X1_init (by decide) (by simp only []; omega) (by simp only []; omega) rfl (Nat.le_of_ble_eq_true rfl) d_X0_init_42 (fun b6 z6 hz6 => ?_)
  refine V_st [(h0, .inr (0, [.int (nI K), .null, .null, .null, .null])), (q3, .inr (5, [.ref (b4 0), .ref (b4 1), .ref (b4 2), .ref (b4 3), .int (g_I z4 19)])), ((b4 0), .inl (cA 0, 160, .inl (g_A z4 6))), ((b4 1), .inl (cA 0, 160, .inl (g_A z4 7))), ((b4 2), .inl (cA 0, 160, .inl (g_A z4 8))), ((b4 3), .inl (cA 1, 160, .inr (.inl (g_L z4 4)))), (q5, .inr (1, [.ref q3, .ref (b6 0), .ref (b6 1), .ref (b6 2), .ref (b6 3), .int (g_I z6 1), .int (g_I z6 2)])), ((b6 0), .inl (cA 1, K, .inr (.inl (g_L z6 0)))), ((b6 1), .inl (cA 0, K, .inl (g_A z6 0))), ((b6 2), .inl (cA 1, K, .inr (.inl (g_L z6 1)))), ((b6 3), .inl (cA 0, 4, .inl (g_A z6 1)))] _ _ rfl rfl rfl ?_
  refine V_putF (X' := [(h0, .inr (0, [.int (nI K), .ref q5, .null, .null, .null])), (q3, .inr (5, [.ref (b4 0), .ref (b4 1), .ref (b4 2), .ref (b4 3), .int (g_I z4 19)])), ((b4 0), .inl (cA 0, 160, .inl (g_A z4 6))), ((b4 1), .inl (cA 0, 160, .inl (g_A z4 7))), ((b4 2), .inl (cA 0, 160, .inl (g_A z4 8))), ((b4 3), .inl (cA 1, 160, .inr (.inl (g_L z4 4)))), (q5, .inr (1, [.ref q3, .ref (b6 0), .ref (b6 1), .ref (b6 2), .ref (b6 3), .int (g_I z6 1), .int (g_I z6 2)])), ((b6 0), .inl (cA 1, K, .inr (.inl (g_L z6 0)))), ((b6 1), .inl (cA 0, K, .inl (g_A z6 0))), ((b6 2), .inl (cA 1, K, .inr (.inl (g_L z6 1)))), ((b6 3), .inl (cA 0, 4, .inl (g_A z6 1)))]) (ty := .object "ChangeFeed$Source") hc uin_X0 0 rfl rfl 1 (by decide) t_X0 t_X0_ok n_X0 k_234 rfl hin rfl (by decide +kernel) rfl rfl (Nat.le_of_ble_eq_true rfl) rfl d_X0_init_45 ?_
  refine V_aload_n hc d_X0_init_48 rfl 2 rfl ?_
  refine V_new (ci := 2) (fs := [.null, .int 0, .int 0]) hc uin_X2 t_X2 t_X2_ok k_95 k_96 k_5 hA rfl (dv_X2) (by simp only []; omega) (by simp only []; omega) d_X0_init_49 (fun q7 => ?_)
  refine V_st [(h0, .inr (0, [.int (nI K), .ref q5, .null, .null, .null])), (q3, .inr (5, [.ref (b4 0), .ref (b4 1), .ref (b4 2), .ref (b4 3), .int (g_I z4 19)])), ((b4 0), .inl (cA 0, 160, .inl (g_A z4 6))), ((b4 1), .inl (cA 0, 160, .inl (g_A z4 7))), ((b4 2), .inl (cA 0, 160, .inl (g_A z4 8))), ((b4 3), .inl (cA 1, 160, .inr (.inl (g_L z4 4)))), (q5, .inr (1, [.ref q3, .ref (b6 0), .ref (b6 1), .ref (b6 2), .ref (b6 3), .int (g_I z6 1), .int (g_I z6 2)])), ((b6 0), .inl (cA 1, K, .inr (.inl (g_L z6 0)))), ((b6 1), .inl (cA 0, K, .inl (g_A z6 0))), ((b6 2), .inl (cA 1, K, .inr (.inl (g_L z6 1)))), ((b6 3), .inl (cA 0, 4, .inl (g_A z6 1))), (q7, .inr (2, [.null, .int 0, .int 0]))] _ _ rfl rfl rfl ?_
  refine V_dup hc d_X0_init_52 rfl ?_
  refine V_callKIN (As := []) (st := [.ref q7, .ref h0]) hc TS_good NS_nest hA (c_X2_init l cA D q7) [11] [0, 1, 2, 3, 4, 5, 6, 7, 8, 9, 10] rfl (wr := [(h0, .inr (0, [.int (nI K), .ref q5, .null, .null, .null])), (q3, .inr (5, [.ref (b4 0), .ref (b4 1), .ref (b4 2), .ref (b4 3), .int (g_I z4 19)])), ((b4 0), .inl (cA 0, 160, .inl (g_A z4 6))), ((b4 1), .inl (cA 0, 160, .inl (g_A z4 7))), ((b4 2), .inl (cA 0, 160, .inl (g_A z4 8))), ((b4 3), .inl (cA 1, 160, .inr (.inl (g_L z4 4)))), (q5, .inr (1, [.ref q3, .ref (b6 0), .ref (b6 1), .ref (b6 2), .ref (b6 3), .int (g_I z6 1), .int (g_I z6 2)])), ((b6 0), .inl (cA 1, K, .inr (.inl (g_L z6 0)))), ((b6 1), .inl (cA 0, K, .inl (g_A z6 0))), ((b6 2), .inl (cA 1, K, .inr (.inl (g_L z6 1)))), ((b6 3), .inl (cA 0, 4, .inl (g_A z6 1)))]) rfl (by decide) (by decide) (by decide) k_97 k_5 k_99 rfl k_98 q_X2_init (by decide) (by simp only []; omega) (by simp only []; omega) rfl (Nat.le_of_ble_eq_true rfl) d_X0_init_53 (fun b8 z8 hz8 => ?_)
  refine V_st [(h0, .inr (0, [.int (nI K), .ref q5, .null, .null, .null])), (q3, .inr (5, [.ref (b4 0), .ref (b4 1), .ref (b4 2), .ref (b4 3), .int (g_I z4 19)])), ((b4 0), .inl (cA 0, 160, .inl (g_A z4 6))), ((b4 1), .inl (cA 0, 160, .inl (g_A z4 7))), ((b4 2), .inl (cA 0, 160, .inl (g_A z4 8))), ((b4 3), .inl (cA 1, 160, .inr (.inl (g_L z4 4)))), (q5, .inr (1, [.ref q3, .ref (b6 0), .ref (b6 1), .ref (b6 2), .ref (b6 3), .int (g_I z6 1), .int (g_I z6 2)])), ((b6 0), .inl (cA 1, K, .inr (.inl (g_L z6 0)))), ((b6 1), .inl (cA 0, K, .inl (g_A z6 0))), ((b6 2), .inl (cA 1, K, .inr (.inl (g_L z6 1)))), ((b6 3), .inl (cA 0, 4, .inl (g_A z6 1))), (q7, .inr (2, [.ref (b8 0), .int (g_I z8 3), .int (g_I z8 4)])), ((b8 0), .inl (cA 0, 32, .inl (g_A z8 2)))] _ _ rfl rfl rfl ?_
  refine V_putF (X' := [(h0, .inr (0, [.int (nI K), .ref q5, .ref q7, .null, .null])), (q3, .inr (5, [.ref (b4 0), .ref (b4 1), .ref (b4 2), .ref (b4 3), .int (g_I z4 19)])), ((b4 0), .inl (cA 0, 160, .inl (g_A z4 6))), ((b4 1), .inl (cA 0, 160, .inl (g_A z4 7))), ((b4 2), .inl (cA 0, 160, .inl (g_A z4 8))), ((b4 3), .inl (cA 1, 160, .inr (.inl (g_L z4 4)))), (q5, .inr (1, [.ref q3, .ref (b6 0), .ref (b6 1), .ref (b6 2), .ref (b6 3), .int (g_I z6 1), .int (g_I z6 2)])), ((b6 0), .inl (cA 1, K, .inr (.inl (g_L z6 0)))), ((b6 1), .inl (cA 0, K, .inl (g_A z6 0))), ((b6 2), .inl (cA 1, K, .inr (.inl (g_L z6 1)))), ((b6 3), .inl (cA 0, 4, .inl (g_A z6 1))), (q7, .inr (2, [.ref (b8 0), .int (g_I z8 3), .int (g_I z8 4)])), ((b8 0), .inl (cA 0, 32, .inl (g_A z8 2)))]) (ty := .object "ChangeFeed$Channel") hc uin_X0 0 rfl rfl 2 (by decide) t_X0 t_X0_ok n_X0 k_235 rfl hin rfl (by decide +kernel) rfl rfl (Nat.le_of_ble_eq_true rfl) rfl d_X0_init_56 ?_
  refine V_aload_n hc d_X0_init_59 rfl 2 rfl ?_
  refine V_new (ci := 3) (fs := [.null, .null, .null, .int 0, .int 0, .int 0, .null, .null, .null, .null, .null, .int 0, .int 0, .int 0, .int 0, .int 0, .int 0]) hc uin_X3 t_X3 t_X3_ok k_113 k_114 k_6 hA rfl (dv_X3) (by simp only []; omega) (by simp only []; omega) d_X0_init_60 (fun q9 => ?_)
  refine V_st [(h0, .inr (0, [.int (nI K), .ref q5, .ref q7, .null, .null])), (q3, .inr (5, [.ref (b4 0), .ref (b4 1), .ref (b4 2), .ref (b4 3), .int (g_I z4 19)])), ((b4 0), .inl (cA 0, 160, .inl (g_A z4 6))), ((b4 1), .inl (cA 0, 160, .inl (g_A z4 7))), ((b4 2), .inl (cA 0, 160, .inl (g_A z4 8))), ((b4 3), .inl (cA 1, 160, .inr (.inl (g_L z4 4)))), (q5, .inr (1, [.ref q3, .ref (b6 0), .ref (b6 1), .ref (b6 2), .ref (b6 3), .int (g_I z6 1), .int (g_I z6 2)])), ((b6 0), .inl (cA 1, K, .inr (.inl (g_L z6 0)))), ((b6 1), .inl (cA 0, K, .inl (g_A z6 0))), ((b6 2), .inl (cA 1, K, .inr (.inl (g_L z6 1)))), ((b6 3), .inl (cA 0, 4, .inl (g_A z6 1))), (q7, .inr (2, [.ref (b8 0), .int (g_I z8 3), .int (g_I z8 4)])), ((b8 0), .inl (cA 0, 32, .inl (g_A z8 2))), (q9, .inr (3, [.null, .null, .null, .int 0, .int 0, .int 0, .null, .null, .null, .null, .null, .int 0, .int 0, .int 0, .int 0, .int 0, .int 0]))] _ _ rfl rfl rfl ?_
  refine V_dup hc d_X0_init_63 rfl ?_
  refine V_aload hc d_X0_init_64 0 rfl ?_
  refine V_aload_n hc d_X0_init_66 rfl 2 rfl ?_
  refine V_get (v := .ref q5) hc uin_X0 0 rfl rfl 1 (by decide) k_234 rfl d_X0_init_67 ?_
  refine V_aload_n hc d_X0_init_70 rfl 2 rfl ?_
  refine V_get (v := .ref q7) hc uin_X0 0 rfl rfl 2 (by decide) k_235 rfl d_X0_init_71 ?_
  refine V_aload_n hc d_X0_init_74 rfl 2 rfl ?_
  refine V_get (v := .int (nI K)) hc uin_X0 0 rfl rfl 0 (by decide) k_233 rfl d_X0_init_75 ?_
  refine V_iload hc d_X0_init_78 1 rfl ?_
  refine V_iload_n hc d_X0_init_80 rfl 5 rfl ?_
  refine V_bipush (v := 20) hc d_X0_init_81 (by decide) ?_
  refine V_callSi (b := 0) (As := [.int x3, .int 20]) (st := [.int (cw_ 6 x2), .int (nI K), .ref q7, .ref q5, .ref q3, .ref q9, .ref q9, .ref h0]) hc TS_good NS_nest hA (c_X0_within l K cA D (fun _ => 0) x3 20 (fun _ => 0, fun _ _ => 0, fun _ _ => 0)) k_20 k_1 k_22 k_21 q_X0_within (by decide) (by simp only []; omega) (by simp only []; omega) rfl (Nat.le_of_ble_eq_true rfl) d_X0_init_83 (Qr := fun r _ => r = cw_ 20 x3) (show cw_ 20 x3 = cw_ 20 x3 from rfl) (fun r10 u hw => ?_)
  subst hw
  refine V_callKI (As := [.ref q3, .ref q5, .ref q7, .int (nI K), .int (cw_ 6 x2), .int (cw_ 20 x3)]) (st := [.ref q9, .ref h0]) hc TS_good NS_nest hA (c_X3_init l cA D q9 q3 q5 q7 K hK0 hK (cw_ 6 x2) (cw_ 20 x3)) [13] [0, 1, 2, 3, 4, 5, 6, 7, 8, 9, 10, 11, 12] rfl (wr := [(h0, .inr (0, [.int (nI K), .ref q5, .ref q7, .null, .null])), (q3, .inr (5, [.ref (b4 0), .ref (b4 1), .ref (b4 2), .ref (b4 3), .int (g_I z4 19)])), ((b4 0), .inl (cA 0, 160, .inl (g_A z4 6))), ((b4 1), .inl (cA 0, 160, .inl (g_A z4 7))), ((b4 2), .inl (cA 0, 160, .inl (g_A z4 8))), ((b4 3), .inl (cA 1, 160, .inr (.inl (g_L z4 4)))), (q5, .inr (1, [.ref q3, .ref (b6 0), .ref (b6 1), .ref (b6 2), .ref (b6 3), .int (g_I z6 1), .int (g_I z6 2)])), ((b6 0), .inl (cA 1, K, .inr (.inl (g_L z6 0)))), ((b6 1), .inl (cA 0, K, .inl (g_A z6 0))), ((b6 2), .inl (cA 1, K, .inr (.inl (g_L z6 1)))), ((b6 3), .inl (cA 0, 4, .inl (g_A z6 1))), (q7, .inr (2, [.ref (b8 0), .int (g_I z8 3), .int (g_I z8 4)])), ((b8 0), .inl (cA 0, 32, .inl (g_A z8 2)))]) rfl (by decide) (by decide) (by decide) k_115 k_6 k_117 rfl k_116 q_X3_init (by decide) (by simp only []; omega) (by simp only []; omega) rfl (Nat.le_of_ble_eq_true rfl) d_X0_init_86 (fun b11 z11 hz11 => ?_)
  refine V_st [(h0, .inr (0, [.int (nI K), .ref q5, .ref q7, .null, .null])), (q3, .inr (5, [.ref (b4 0), .ref (b4 1), .ref (b4 2), .ref (b4 3), .int (g_I z4 19)])), ((b4 0), .inl (cA 0, 160, .inl (g_A z4 6))), ((b4 1), .inl (cA 0, 160, .inl (g_A z4 7))), ((b4 2), .inl (cA 0, 160, .inl (g_A z4 8))), ((b4 3), .inl (cA 1, 160, .inr (.inl (g_L z4 4)))), (q5, .inr (1, [.ref q3, .ref (b6 0), .ref (b6 1), .ref (b6 2), .ref (b6 3), .int (g_I z6 1), .int (g_I z6 2)])), ((b6 0), .inl (cA 1, K, .inr (.inl (g_L z6 0)))), ((b6 1), .inl (cA 0, K, .inl (g_A z6 0))), ((b6 2), .inl (cA 1, K, .inr (.inl (g_L z6 1)))), ((b6 3), .inl (cA 0, 4, .inl (g_A z6 1))), (q7, .inr (2, [.ref (b8 0), .int (g_I z8 3), .int (g_I z8 4)])), ((b8 0), .inl (cA 0, 32, .inl (g_A z8 2))), (q9, .inr (3, [.ref q3, .ref q5, .ref q7, .int (g_I z11 5), .int (g_I z11 6), .int (g_I z11 7), .ref (b11 0), .ref (b11 1), .ref (b11 2), .ref (b11 3), .ref (b11 4), .int (g_I z11 8), .int (g_I z11 9), .int (g_I z11 10), .int (g_I z11 11), .int (g_I z11 12), .int (g_I z11 13)])), ((b11 0), .inr (6, [.ref (b11 5), .ref (b11 6), .int (g_I z11 20), .int (g_I z11 21), .int (g_I z11 22)])), ((b11 1), .inl (cA 1, K, .inr (.inl (g_L z11 2)))), ((b11 2), .inl (cA 0, 4, .inl (g_A z11 3))), ((b11 3), .inl (cA 0, 4, .inl (g_A z11 4))), ((b11 4), .inl (cA 0, 4, .inl (g_A z11 5))), ((b11 5), .inl (cA 1, K, .inr (.inl (g_L z11 5)))), ((b11 6), .inl (cA 2, K, .inl (g_A z11 9)))] _ _ rfl rfl rfl ?_
  refine V_putF (X' := [(h0, .inr (0, [.int (nI K), .ref q5, .ref q7, .ref q9, .null])), (q3, .inr (5, [.ref (b4 0), .ref (b4 1), .ref (b4 2), .ref (b4 3), .int (g_I z4 19)])), ((b4 0), .inl (cA 0, 160, .inl (g_A z4 6))), ((b4 1), .inl (cA 0, 160, .inl (g_A z4 7))), ((b4 2), .inl (cA 0, 160, .inl (g_A z4 8))), ((b4 3), .inl (cA 1, 160, .inr (.inl (g_L z4 4)))), (q5, .inr (1, [.ref q3, .ref (b6 0), .ref (b6 1), .ref (b6 2), .ref (b6 3), .int (g_I z6 1), .int (g_I z6 2)])), ((b6 0), .inl (cA 1, K, .inr (.inl (g_L z6 0)))), ((b6 1), .inl (cA 0, K, .inl (g_A z6 0))), ((b6 2), .inl (cA 1, K, .inr (.inl (g_L z6 1)))), ((b6 3), .inl (cA 0, 4, .inl (g_A z6 1))), (q7, .inr (2, [.ref (b8 0), .int (g_I z8 3), .int (g_I z8 4)])), ((b8 0), .inl (cA 0, 32, .inl (g_A z8 2))), (q9, .inr (3, [.ref q3, .ref q5, .ref q7, .int (g_I z11 5), .int (g_I z11 6), .int (g_I z11 7), .ref (b11 0), .ref (b11 1), .ref (b11 2), .ref (b11 3), .ref (b11 4), .int (g_I z11 8), .int (g_I z11 9), .int (g_I z11 10), .int (g_I z11 11), .int (g_I z11 12), .int (g_I z11 13)])), ((b11 0), .inr (6, [.ref (b11 5), .ref (b11 6), .int (g_I z11 20), .int (g_I z11 21), .int (g_I z11 22)])), ((b11 1), .inl (cA 1, K, .inr (.inl (g_L z11 2)))), ((b11 2), .inl (cA 0, 4, .inl (g_A z11 3))), ((b11 3), .inl (cA 0, 4, .inl (g_A z11 4))), ((b11 4), .inl (cA 0, 4, .inl (g_A z11 5))), ((b11 5), .inl (cA 1, K, .inr (.inl (g_L z11 5)))), ((b11 6), .inl (cA 2, K, .inl (g_A z11 9)))]) (ty := .object "ChangeFeed$Pipeline") hc uin_X0 0 rfl rfl 3 (by decide) t_X0 t_X0_ok n_X0 k_236 rfl hin rfl (by decide +kernel) rfl rfl (Nat.le_of_ble_eq_true rfl) rfl d_X0_init_89 ?_
  refine V_aload_n hc d_X0_init_92 rfl 2 rfl ?_
  refine V_new (ci := 4) (fs := [.null, .int 0, .int 0, .null, .int 0, .int 0, .int 0]) hc uin_X4 t_X4 t_X4_ok k_198 k_199 k_8 hA rfl (dv_X4) (by simp only []; omega) (by simp only []; omega) d_X0_init_93 (fun q12 => ?_)
  refine V_st [(h0, .inr (0, [.int (nI K), .ref q5, .ref q7, .ref q9, .null])), (q3, .inr (5, [.ref (b4 0), .ref (b4 1), .ref (b4 2), .ref (b4 3), .int (g_I z4 19)])), ((b4 0), .inl (cA 0, 160, .inl (g_A z4 6))), ((b4 1), .inl (cA 0, 160, .inl (g_A z4 7))), ((b4 2), .inl (cA 0, 160, .inl (g_A z4 8))), ((b4 3), .inl (cA 1, 160, .inr (.inl (g_L z4 4)))), (q5, .inr (1, [.ref q3, .ref (b6 0), .ref (b6 1), .ref (b6 2), .ref (b6 3), .int (g_I z6 1), .int (g_I z6 2)])), ((b6 0), .inl (cA 1, K, .inr (.inl (g_L z6 0)))), ((b6 1), .inl (cA 0, K, .inl (g_A z6 0))), ((b6 2), .inl (cA 1, K, .inr (.inl (g_L z6 1)))), ((b6 3), .inl (cA 0, 4, .inl (g_A z6 1))), (q7, .inr (2, [.ref (b8 0), .int (g_I z8 3), .int (g_I z8 4)])), ((b8 0), .inl (cA 0, 32, .inl (g_A z8 2))), (q9, .inr (3, [.ref q3, .ref q5, .ref q7, .int (g_I z11 5), .int (g_I z11 6), .int (g_I z11 7), .ref (b11 0), .ref (b11 1), .ref (b11 2), .ref (b11 3), .ref (b11 4), .int (g_I z11 8), .int (g_I z11 9), .int (g_I z11 10), .int (g_I z11 11), .int (g_I z11 12), .int (g_I z11 13)])), ((b11 0), .inr (6, [.ref (b11 5), .ref (b11 6), .int (g_I z11 20), .int (g_I z11 21), .int (g_I z11 22)])), ((b11 1), .inl (cA 1, K, .inr (.inl (g_L z11 2)))), ((b11 2), .inl (cA 0, 4, .inl (g_A z11 3))), ((b11 3), .inl (cA 0, 4, .inl (g_A z11 4))), ((b11 4), .inl (cA 0, 4, .inl (g_A z11 5))), ((b11 5), .inl (cA 1, K, .inr (.inl (g_L z11 5)))), ((b11 6), .inl (cA 2, K, .inl (g_A z11 9))), (q12, .inr (4, [.null, .int 0, .int 0, .null, .int 0, .int 0, .int 0]))] _ _ rfl rfl rfl ?_
  refine V_dup hc d_X0_init_96 rfl ?_
  refine V_aload hc d_X0_init_97 0 rfl ?_
  refine V_aload_n hc d_X0_init_99 rfl 2 rfl ?_
  refine V_get (v := .int (nI K)) hc uin_X0 0 rfl rfl 0 (by decide) k_233 rfl d_X0_init_100 ?_
  refine V_iload hc d_X0_init_103 1 rfl ?_
  refine V_iload hc d_X0_init_105 6 rfl ?_
  refine V_callKI (As := [.ref q3, .int (nI K), .int (cw_ 6 x2), .int x4]) (st := [.ref q12, .ref h0]) hc TS_good NS_nest hA (c_X4_init l cA D q12 q3 K hK0 hK (cw_ 6 x2) x4) [21] [0, 1, 2, 3, 4, 5, 6, 7, 8, 9, 10, 11, 12, 13, 14, 15, 16, 17, 18, 19, 20] rfl (wr := [(h0, .inr (0, [.int (nI K), .ref q5, .ref q7, .ref q9, .null])), (q3, .inr (5, [.ref (b4 0), .ref (b4 1), .ref (b4 2), .ref (b4 3), .int (g_I z4 19)])), ((b4 0), .inl (cA 0, 160, .inl (g_A z4 6))), ((b4 1), .inl (cA 0, 160, .inl (g_A z4 7))), ((b4 2), .inl (cA 0, 160, .inl (g_A z4 8))), ((b4 3), .inl (cA 1, 160, .inr (.inl (g_L z4 4)))), (q5, .inr (1, [.ref q3, .ref (b6 0), .ref (b6 1), .ref (b6 2), .ref (b6 3), .int (g_I z6 1), .int (g_I z6 2)])), ((b6 0), .inl (cA 1, K, .inr (.inl (g_L z6 0)))), ((b6 1), .inl (cA 0, K, .inl (g_A z6 0))), ((b6 2), .inl (cA 1, K, .inr (.inl (g_L z6 1)))), ((b6 3), .inl (cA 0, 4, .inl (g_A z6 1))), (q7, .inr (2, [.ref (b8 0), .int (g_I z8 3), .int (g_I z8 4)])), ((b8 0), .inl (cA 0, 32, .inl (g_A z8 2))), (q9, .inr (3, [.ref q3, .ref q5, .ref q7, .int (g_I z11 5), .int (g_I z11 6), .int (g_I z11 7), .ref (b11 0), .ref (b11 1), .ref (b11 2), .ref (b11 3), .ref (b11 4), .int (g_I z11 8), .int (g_I z11 9), .int (g_I z11 10), .int (g_I z11 11), .int (g_I z11 12), .int (g_I z11 13)])), ((b11 0), .inr (6, [.ref (b11 5), .ref (b11 6), .int (g_I z11 20), .int (g_I z11 21), .int (g_I z11 22)])), ((b11 1), .inl (cA 1, K, .inr (.inl (g_L z11 2)))), ((b11 2), .inl (cA 0, 4, .inl (g_A z11 3))), ((b11 3), .inl (cA 0, 4, .inl (g_A z11 4))), ((b11 4), .inl (cA 0, 4, .inl (g_A z11 5))), ((b11 5), .inl (cA 1, K, .inr (.inl (g_L z11 5)))), ((b11 6), .inl (cA 2, K, .inl (g_A z11 9)))]) rfl (by decide) (by decide) (by decide) k_200 k_8 k_202 rfl k_201 q_X4_init (by decide) (by simp only []; omega) (by simp only []; omega) rfl (Nat.le_of_ble_eq_true rfl) d_X0_init_107 (fun b13 z13 hz13 => ?_)
  refine V_st [(h0, .inr (0, [.int (nI K), .ref q5, .ref q7, .ref q9, .null])), (q3, .inr (5, [.ref (b4 0), .ref (b4 1), .ref (b4 2), .ref (b4 3), .int (g_I z4 19)])), ((b4 0), .inl (cA 0, 160, .inl (g_A z4 6))), ((b4 1), .inl (cA 0, 160, .inl (g_A z4 7))), ((b4 2), .inl (cA 0, 160, .inl (g_A z4 8))), ((b4 3), .inl (cA 1, 160, .inr (.inl (g_L z4 4)))), (q5, .inr (1, [.ref q3, .ref (b6 0), .ref (b6 1), .ref (b6 2), .ref (b6 3), .int (g_I z6 1), .int (g_I z6 2)])), ((b6 0), .inl (cA 1, K, .inr (.inl (g_L z6 0)))), ((b6 1), .inl (cA 0, K, .inl (g_A z6 0))), ((b6 2), .inl (cA 1, K, .inr (.inl (g_L z6 1)))), ((b6 3), .inl (cA 0, 4, .inl (g_A z6 1))), (q7, .inr (2, [.ref (b8 0), .int (g_I z8 3), .int (g_I z8 4)])), ((b8 0), .inl (cA 0, 32, .inl (g_A z8 2))), (q9, .inr (3, [.ref q3, .ref q5, .ref q7, .int (g_I z11 5), .int (g_I z11 6), .int (g_I z11 7), .ref (b11 0), .ref (b11 1), .ref (b11 2), .ref (b11 3), .ref (b11 4), .int (g_I z11 8), .int (g_I z11 9), .int (g_I z11 10), .int (g_I z11 11), .int (g_I z11 12), .int (g_I z11 13)])), ((b11 0), .inr (6, [.ref (b11 5), .ref (b11 6), .int (g_I z11 20), .int (g_I z11 21), .int (g_I z11 22)])), ((b11 1), .inl (cA 1, K, .inr (.inl (g_L z11 2)))), ((b11 2), .inl (cA 0, 4, .inl (g_A z11 3))), ((b11 3), .inl (cA 0, 4, .inl (g_A z11 4))), ((b11 4), .inl (cA 0, 4, .inl (g_A z11 5))), ((b11 5), .inl (cA 1, K, .inr (.inl (g_L z11 5)))), ((b11 6), .inl (cA 2, K, .inl (g_A z11 9))), (q12, .inr (4, [.ref q3, .int (g_I z13 14), .int (g_I z13 15), .ref (b13 0), .int (g_I z13 16), .int (g_I z13 17), .int (g_I z13 18)])), ((b13 0), .inl (cA 1, K, .inr (.inl (g_L z13 3))))] _ _ rfl rfl rfl ?_
  refine V_putF (X' := [(h0, .inr (0, [.int (nI K), .ref q5, .ref q7, .ref q9, .ref q12])), (q3, .inr (5, [.ref (b4 0), .ref (b4 1), .ref (b4 2), .ref (b4 3), .int (g_I z4 19)])), ((b4 0), .inl (cA 0, 160, .inl (g_A z4 6))), ((b4 1), .inl (cA 0, 160, .inl (g_A z4 7))), ((b4 2), .inl (cA 0, 160, .inl (g_A z4 8))), ((b4 3), .inl (cA 1, 160, .inr (.inl (g_L z4 4)))), (q5, .inr (1, [.ref q3, .ref (b6 0), .ref (b6 1), .ref (b6 2), .ref (b6 3), .int (g_I z6 1), .int (g_I z6 2)])), ((b6 0), .inl (cA 1, K, .inr (.inl (g_L z6 0)))), ((b6 1), .inl (cA 0, K, .inl (g_A z6 0))), ((b6 2), .inl (cA 1, K, .inr (.inl (g_L z6 1)))), ((b6 3), .inl (cA 0, 4, .inl (g_A z6 1))), (q7, .inr (2, [.ref (b8 0), .int (g_I z8 3), .int (g_I z8 4)])), ((b8 0), .inl (cA 0, 32, .inl (g_A z8 2))), (q9, .inr (3, [.ref q3, .ref q5, .ref q7, .int (g_I z11 5), .int (g_I z11 6), .int (g_I z11 7), .ref (b11 0), .ref (b11 1), .ref (b11 2), .ref (b11 3), .ref (b11 4), .int (g_I z11 8), .int (g_I z11 9), .int (g_I z11 10), .int (g_I z11 11), .int (g_I z11 12), .int (g_I z11 13)])), ((b11 0), .inr (6, [.ref (b11 5), .ref (b11 6), .int (g_I z11 20), .int (g_I z11 21), .int (g_I z11 22)])), ((b11 1), .inl (cA 1, K, .inr (.inl (g_L z11 2)))), ((b11 2), .inl (cA 0, 4, .inl (g_A z11 3))), ((b11 3), .inl (cA 0, 4, .inl (g_A z11 4))), ((b11 4), .inl (cA 0, 4, .inl (g_A z11 5))), ((b11 5), .inl (cA 1, K, .inr (.inl (g_L z11 5)))), ((b11 6), .inl (cA 2, K, .inl (g_A z11 9))), (q12, .inr (4, [.ref q3, .int (g_I z13 14), .int (g_I z13 15), .ref (b13 0), .int (g_I z13 16), .int (g_I z13 17), .int (g_I z13 18)])), ((b13 0), .inl (cA 1, K, .inr (.inl (g_L z13 3))))]) (ty := .object "ChangeFeed$Sink") hc uin_X0 0 rfl rfl 4 (by decide) t_X0 t_X0_ok n_X0 k_237 rfl hin rfl (by decide +kernel) rfl rfl (Nat.le_of_ble_eq_true rfl) rfl d_X0_init_110 ?_
  refine V_perm [0, 6, 11, 13, 21, 1, 14, 7, 8, 9, 10, 12, 15, 16, 17, 18, 22, 2, 3, 4, 5, 19, 20] [(h0, .inr (0, [.int (nI K), .ref q5, .ref q7, .ref q9, .ref q12])), (q5, .inr (1, [.ref q3, .ref (b6 0), .ref (b6 1), .ref (b6 2), .ref (b6 3), .int (g_I z6 1), .int (g_I z6 2)])), (q7, .inr (2, [.ref (b8 0), .int (g_I z8 3), .int (g_I z8 4)])), (q9, .inr (3, [.ref q3, .ref q5, .ref q7, .int (g_I z11 5), .int (g_I z11 6), .int (g_I z11 7), .ref (b11 0), .ref (b11 1), .ref (b11 2), .ref (b11 3), .ref (b11 4), .int (g_I z11 8), .int (g_I z11 9), .int (g_I z11 10), .int (g_I z11 11), .int (g_I z11 12), .int (g_I z11 13)])), (q12, .inr (4, [.ref q3, .int (g_I z13 14), .int (g_I z13 15), .ref (b13 0), .int (g_I z13 16), .int (g_I z13 17), .int (g_I z13 18)])), (q3, .inr (5, [.ref (b4 0), .ref (b4 1), .ref (b4 2), .ref (b4 3), .int (g_I z4 19)])), ((b11 0), .inr (6, [.ref (b11 5), .ref (b11 6), .int (g_I z11 20), .int (g_I z11 21), .int (g_I z11 22)])), ((b6 0), .inl (cA 1, K, .inr (.inl (g_L z6 0)))), ((b6 1), .inl (cA 0, K, .inl (g_A z6 0))), ((b6 2), .inl (cA 1, K, .inr (.inl (g_L z6 1)))), ((b6 3), .inl (cA 0, 4, .inl (g_A z6 1))), ((b8 0), .inl (cA 0, 32, .inl (g_A z8 2))), ((b11 1), .inl (cA 1, K, .inr (.inl (g_L z11 2)))), ((b11 2), .inl (cA 0, 4, .inl (g_A z11 3))), ((b11 3), .inl (cA 0, 4, .inl (g_A z11 4))), ((b11 4), .inl (cA 0, 4, .inl (g_A z11 5))), ((b13 0), .inl (cA 1, K, .inr (.inl (g_L z13 3)))), ((b4 0), .inl (cA 0, 160, .inl (g_A z4 6))), ((b4 1), .inl (cA 0, 160, .inl (g_A z4 7))), ((b4 2), .inl (cA 0, 160, .inl (g_A z4 8))), ((b4 3), .inl (cA 1, 160, .inr (.inl (g_L z4 4)))), ((b11 5), .inl (cA 1, K, .inr (.inl (g_L z11 5)))), ((b11 6), .inl (cA 2, K, .inl (g_A z11 9)))] rfl (by decide) ?_
  obtain ⟨lg0, lg1, lg2, lg3, lg4⟩ := hz4
  obtain ⟨so, sb, sn, sl⟩ := hz6
  obtain ⟨cw, cs, ce⟩ := hz8
  obtain ⟨pp0, pp1, pp2, pp3, pp4, pp5, pp6, pp7, pp8, pp9, pp10, pp11, pp12, pp13, pp14, pp15, pp16, pp17⟩ := hz11
  obtain ⟨k0, k1, k2, k3, k4, k5⟩ := hz13
  refine V_widen (k := 22) (n := 860) (by omega) (by omega) ?_
  exact V_cret hc NS_nest hr (fun k => ([h0, q5, q7, q9, q12, q3, (b11 0), (b6 0), (b6 1), (b6 2), (b6 3), (b8 0), (b11 1), (b11 2), (b11 3), (b11 4), (b13 0), (b4 0), (b4 1), (b4 2), (b4 3), (b11 5), (b11 6)] : List Nat).getD k 0) (fun k => ([(nI K), g_I z6 1, g_I z6 2, g_I z8 3, g_I z8 4, g_I z11 5, g_I z11 6, g_I z11 7, g_I z11 8, g_I z11 9, g_I z11 10, g_I z11 11, g_I z11 12, g_I z11 13, g_I z13 14, g_I z13 15, g_I z13 16, g_I z13 17, g_I z13 18, g_I z4 19, g_I z11 20, g_I z11 21, g_I z11 22] : List Int32).getD k 0, fun k => ([g_A z6 0, g_A z6 1, g_A z8 2, g_A z11 3, g_A z11 4, g_A z11 5, g_A z4 6, g_A z4 7, g_A z4 8, g_A z11 9] : List (Nat → Int32)).getD k (fun _ => 0), fun k => ([g_L z6 0, g_L z6 1, g_L z11 2, g_L z13 3, g_L z4 4, g_L z11 5] : List (Nat → Int64)).getD k (fun _ => 0)) rfl ⟨rfl, so, sb, cs, ce, pp0, pp1, pp2, pp3, pp4, pp5, pp6, pp7, pp8, k0, k1, k2, k3, k4, lg4, pp9, pp10, pp11, cw, pp12, pp13, pp14, pp15, lg0, lg1, lg2, lg3, pp16, pp17, sn, sl, k5⟩ d_X0_init_113
