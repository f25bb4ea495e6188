def w_X3_readEntry (K : Nat)  (z : St) (Q : Int32 → St → Prop) : Prop :=
  ((g_I z 12 < g_I z 19 → w_X3_isToBeEmitted K  z (fun r1 u2 => ((r1 = 0 → Q 1 (s_I u2 12 (g_I u2 12 + 1))) ∧ (¬ r1 = 0 → ((g_I u2 8 < 4 → w_X3_readEvent K  u2 (fun r3 u4 => Q 1 (s_I u4 12 (g_I u4 12 + 1)))) ∧ (¬ g_I u2 8 < 4 → Q 0 u2)))))) ∧ (¬ g_I z 12 < g_I z 19 → Q 0 z))
set_option maxHeartbeats 4000000 in
set_option maxRecDepth 100000 in
theorem c_X3_readEntry (l : Launch) (K : Nat) (cA : Nat → ClassId) (D : va_G) (a : Nat → Nat)  (z : St) : Ct l NS CL D (tyX cA) 23 a (WX K cA a) mkI y_X3_readEntry (.code y_X3_readEntry b_X3_readEntry 1 (some .boolean) :: TS) { frames := 5, cells := 0, slots := 0, locals := 110 } [.ref (a 3)] z (w_X3_readEntry K  z) := by
  refine Ct.of (by decide) (Nat.le_of_ble_eq_true rfl) adX ?_
  intro Q p e s m args below meth c hc hr hw
  unfold w_X3_readEntry at hw
  refine V_st _ [(0, .ref (a 3))] _ rfl rfl rfl ?_
  refine V_aload_n hc d_X3_readEntry_0 rfl 0 rfl ?_
  refine V_get (v := .int (g_I z 12)) hc uin_X3 3 eX_3 rfl 15 (by decide) k_161 rfl d_X3_readEntry_1 ?_
  refine V_aload_n hc d_X3_readEntry_4 rfl 0 rfl ?_
  refine V_get (v := .ref (a 5)) hc uin_X3 3 eX_3 rfl 0 (by decide) k_144 rfl d_X3_readEntry_5 ?_
  refine V_getN (v := .int (g_I z 19)) hc uin_X5 5 eX_5 rfl 4 (by decide) k_48 rfl d_X3_readEntry_8 ?_
  refine V_icmp_lt (tgt := 16) hc d_X3_readEntry_11 rfl (fun h => ?_) (fun h => ?_)
  · replace hw := hw.1 h
    refine V_aload_n hc d_X3_readEntry_16 rfl 0 rfl ?_
    refine V_callVi (As := []) (st := []) hc TS_good NS_nest (fun _ h => h) (c_X3_isToBeEmitted l K cA D a  z) k_410 k_6 k_413 k_412 kp_X3_isToBeEmitted 3 eX_3 rfl q_X3_isToBeEmitted (by decide) (Nat.zero_le _) (Nat.zero_le _) rfl (Nat.le_of_ble_eq_true rfl) d_X3_readEntry_17 hw (fun r1 u2 hw => ?_)
    try dsimp only at hw
    refine V_if_eq (tgt := 37) hc d_X3_readEntry_20 rfl (fun h => ?_) (fun h => ?_)
    · replace hw := hw.1 h
      refine V_aload_n hc d_X3_readEntry_37 rfl 0 rfl ?_
      refine V_dup hc d_X3_readEntry_38 rfl ?_
      refine V_get (v := .int (g_I u2 12)) hc uin_X3 3 eX_3 rfl 15 (by decide) k_161 rfl d_X3_readEntry_39 ?_
      refine V_iconst (v := 1) hc d_X3_readEntry_42 (by decide) ?_
      refine V_iadd hc d_X3_readEntry_43 rfl ?_
      refine V_put (ty := .int) hc uin_X3 3 eX_3 rfl 15 (by decide) t_X3 t_X3_ok n_X3 k_161 rfl (by decide +kernel) rfl rfl (Nat.le_of_ble_eq_true rfl) iX_12 d_X3_readEntry_44 ?_
      refine V_iconst (v := 1) hc d_X3_readEntry_47 (by decide) ?_
      exact V_zret hc NS_nest hr (by decide) hw d_X3_readEntry_48
    · replace hw := hw.2 h
      refine V_aload_n hc d_X3_readEntry_23 rfl 0 rfl ?_
      refine V_get (v := .int (g_I u2 8)) hc uin_X3 3 eX_3 rfl 11 (by decide) k_156 rfl d_X3_readEntry_24 ?_
      refine V_iconst (v := 4) hc d_X3_readEntry_27 (by decide) ?_
      refine V_icmp_lt (tgt := 33) hc d_X3_readEntry_28 rfl (fun h => ?_) (fun h => ?_)
      · replace hw := hw.1 h
        refine V_aload_n hc d_X3_readEntry_33 rfl 0 rfl ?_
        refine V_callVv (As := []) (st := []) hc TS_good NS_nest (fun _ h => h) (c_X3_readEvent l K cA D a  u2) k_418 k_6 k_421 k_420 kp_X3_readEvent 3 eX_3 rfl q_X3_readEvent (by decide) (Nat.zero_le _) (Nat.zero_le _) rfl (Nat.le_of_ble_eq_true rfl) d_X3_readEntry_34 hw (fun r3 u4 hw => ?_)
        try dsimp only at hw
        refine V_aload_n hc d_X3_readEntry_37 rfl 0 rfl ?_
        refine V_dup hc d_X3_readEntry_38 rfl ?_
        refine V_get (v := .int (g_I u4 12)) hc uin_X3 3 eX_3 rfl 15 (by decide) k_161 rfl d_X3_readEntry_39 ?_
        refine V_iconst (v := 1) hc d_X3_readEntry_42 (by decide) ?_
        refine V_iadd hc d_X3_readEntry_43 rfl ?_
        refine V_put (ty := .int) hc uin_X3 3 eX_3 rfl 15 (by decide) t_X3 t_X3_ok n_X3 k_161 rfl (by decide +kernel) rfl rfl (Nat.le_of_ble_eq_true rfl) iX_12 d_X3_readEntry_44 ?_
        refine V_iconst (v := 1) hc d_X3_readEntry_47 (by decide) ?_
        exact V_zret hc NS_nest hr (by decide) hw d_X3_readEntry_48
      · replace hw := hw.2 h
        refine V_iconst (v := 0) hc d_X3_readEntry_31 (by decide) ?_
        exact V_zret hc NS_nest hr (by decide) hw d_X3_readEntry_32
  · replace hw := hw.2 h
    refine V_iconst (v := 0) hc d_X3_readEntry_14 (by decide) ?_
    exact V_zret hc NS_nest hr (by decide) hw d_X3_readEntry_15
def w_X0_step_15 (K : Nat) (Q : Int32 → St → Prop) : Nat → Int32 → Int32 → St → Prop
  | 0, _, _, _ => False
  | n + 1, v1, v2, z => ((v1 ≤ v2 → Q v2 z) ∧ (¬ v1 ≤ v2 → w_X3_readEntry K  z (fun r1 u2 => ((r1 = 0 → Q v2 u2) ∧ (¬ r1 = 0 → w_X0_step_15 K Q n v1 (v2 + 1) u2)))))
def w_X0_step (K : Nat) (x1 : Int32) (z : St) (Q : Int32 → St → Prop) : Prop :=
  ((x1 < 0 → Q (-2) z) ∧ (¬ x1 < 0 → ((x1 ≤ 100 → (∃ n9, w_X0_step_15 K Q n9 x1 0 z)) ∧ (¬ x1 ≤ 100 → Q (-2) z))))
set_option maxHeartbeats 4000000 in
set_option maxRecDepth 100000 in
theorem l_X0_step_15 (l : Launch) (K : Nat) (cA : Nat → ClassId) (D : va_G) (a : Nat → Nat) (Q : Int32 → St → Prop) (p : Program) (e : Env) (s : State) (m : MethodId) (args : Array Value) (below : List Frame) (meth : Method) (c : Code) (hc : Cx TS NS CL D (tyX cA) p s m args meth c b_X0_step 3 y_X0_step.cls) (hr : meth.sig.returnType = (some .int)) : ∀ (n : Nat) (v1 : Int32) (v2 : Int32) (z : St), w_X0_step_15 K Q n v1 v2 z → V CL p l e { frames := 6, cells := 0, slots := 0, locals := 130 } s m args below meth c 3 D (AX 23 a s.heap.size) 0 0 (MQ below (Qg NS CL D (tyX cA) (WX K cA a) (AX 23 a s.heap.size) mkI Q) args s 0 0 (AX 23 a s.heap.size)) (WX K cA a z) 15 [(0, .ref (a 0)), (1, .int v1), (2, .int v2)] [] := by
  intro n
  induction n with
  | zero =>
    intro v1 v2 z hw
    exact hw.elim
  | succ n ih =>
    intro v1 v2 z hw
    unfold w_X0_step_15 at hw
    refine V_iload_n hc d_X0_step_15 rfl 2 rfl ?_
    refine V_iload_n hc d_X0_step_16 rfl 1 rfl ?_
    refine V_icmp_ge (tgt := 36) hc d_X0_step_17 rfl (fun h => ?_) (fun h => ?_)
    · replace hw := hw.1 h
      refine V_iload_n hc d_X0_step_36 rfl 2 rfl ?_
      exact V_iret hc NS_nest hr hw d_X0_step_37
    · replace hw := hw.2 h
      refine V_aload_n hc d_X0_step_20 rfl 0 rfl ?_
      refine V_get (v := .ref (a 3)) hc uin_X0 0 eX_0 rfl 3 (by decide) k_236 rfl d_X0_step_21 ?_
      refine V_callVi (As := []) (st := []) hc TS_good NS_nest (fun _ h => h) (c_X3_readEntry l K cA D a  z) k_406 k_6 k_409 k_407 k_408 3 eX_3 rfl q_X3_readEntry (by decide) (Nat.zero_le _) (Nat.zero_le _) rfl (Nat.le_of_ble_eq_true rfl) d_X0_step_24 hw (fun r1 u2 hw => ?_)
      try dsimp only at hw
      refine V_if_eq (tgt := 36) hc d_X0_step_27 rfl (fun h => ?_) (fun h => ?_)
      · replace hw := hw.1 h
        refine V_iload_n hc d_X0_step_36 rfl 2 rfl ?_
        exact V_iret hc NS_nest hr hw d_X0_step_37
      · replace hw := hw.2 h
        refine V_iinc (v := (v2 + 1)) hc [(2, .int (v2 + 1)), (0, .ref (a 0)), (1, .int v1)] d_X0_step_30 2 rfl (by rfl) (by decide) rfl ?_
        refine V_goto (tgt := 15) hc d_X0_step_33 rfl ?_
        refine V_sub [1, 2, 0] [(0, .ref (a 0)), (1, .int v1), (2, .int (v2 + 1))] rfl ?_
        exact ih v1 (v2 + 1) u2 hw
set_option maxHeartbeats 4000000 in
set_option maxRecDepth 100000 in
theorem c_X0_step (l : Launch) (K : Nat) (cA : Nat → ClassId) (D : va_G) (a : Nat → Nat) (x1 : Int32) (z : St) : Ct l NS CL D (tyX cA) 23 a (WX K cA a) mkI y_X0_step (.code y_X0_step b_X0_step 3 (some .int) :: TS) { frames := 6, cells := 0, slots := 0, locals := 130 } [.ref (a 0), .int x1] z (w_X0_step K x1 z) := by
  refine Ct.of (by decide) (Nat.le_of_ble_eq_true rfl) adX ?_
  intro Q p e s m args below meth c hc hr hw
  unfold w_X0_step at hw
  refine V_st _ [(0, .ref (a 0)), (1, .int x1)] _ rfl rfl rfl ?_
  refine V_iload_n hc d_X0_step_0 rfl 1 rfl ?_
  refine V_if_lt (tgt := 10) hc d_X0_step_1 rfl (fun h => ?_) (fun h => ?_)
  · replace hw := hw.1 h
    refine V_bipush (v := (-2)) hc d_X0_step_10 (by decide) ?_
    exact V_iret hc NS_nest hr hw d_X0_step_12
  · replace hw := hw.2 h
    refine V_iload_n hc d_X0_step_4 rfl 1 rfl ?_
    refine V_bipush (v := 100) hc d_X0_step_5 (by decide) ?_
    refine V_icmp_le (tgt := 13) hc d_X0_step_7 rfl (fun h => ?_) (fun h => ?_)
    · replace hw := hw.1 h
      refine V_iconst (v := 0) hc d_X0_step_13 (by decide) ?_
      refine V_istore_n hc [(2, .int 0), (0, .ref (a 0)), (1, .int x1)] d_X0_step_14 rfl (by decide) rfl ?_
      obtain ⟨n9, hw⟩ := hw
      refine V_sub [1, 2, 0] [(0, .ref (a 0)), (1, .int x1), (2, .int 0)] rfl ?_
      exact l_X0_step_15 l K cA D a Q p e s m args below meth c hc hr n9 x1 0 z hw
    · replace hw := hw.2 h
      refine V_bipush (v := (-2)) hc d_X0_step_10 (by decide) ?_
      exact V_iret hc NS_nest hr hw d_X0_step_12
def w_X0_waiting (K : Nat)  (z : St) (Q : Int32 → St → Prop) : Prop :=
  Q (g_I z 8) z
set_option maxHeartbeats 4000000 in
set_option maxRecDepth 100000 in
theorem c_X0_waiting (l : Launch) (K : Nat) (cA : Nat → ClassId) (D : va_G) (a : Nat → Nat)  (z : St) : Ct l NS CL D (tyX cA) 23 a (WX K cA a) mkI y_X0_waiting (.code y_X0_waiting b_X0_waiting 1 (some .int) :: TS) { frames := 0, cells := 0, slots := 0, locals := 0 } [.ref (a 0)] z (w_X0_waiting K  z) := by
  refine Ct.of (by decide) (Nat.le_of_ble_eq_true rfl) adX ?_
  intro Q p e s m args below meth c hc hr hw
  unfold w_X0_waiting at hw
  refine V_st _ [(0, .ref (a 0))] _ rfl rfl rfl ?_
  refine V_aload_n hc d_X0_waiting_0 rfl 0 rfl ?_
  refine V_get (v := .ref (a 3)) hc uin_X0 0 eX_0 rfl 3 (by decide) k_236 rfl d_X0_waiting_1 ?_
  refine V_getN (v := .int (g_I z 8)) hc uin_X3 3 eX_3 rfl 11 (by decide) k_157 rfl d_X0_waiting_4 ?_
  exact V_iret hc NS_nest hr hw d_X0_waiting_7
def w_X3_passTime_14 (K : Nat) (Q : Int32 → St → Prop) : Nat → Int32 → Int32 → St → Prop
  | 0, _, _, _ => False
  | n + 1, v1, v2, z => ((g_I z 8 ≤ v2 → Q v1 z) ∧ (¬ g_I z 8 ≤ v2 → (vp_in v2 4 ∧ (((g_I z 9 - (g_A z 5 (v2 : Int32).toNatClampNeg)) < g_I z 7 → w_X3_passTime_14 K Q n v1 (v2 + 1) z) ∧ (¬ (g_I z 9 - (g_A z 5 (v2 : Int32).toNatClampNeg)) < g_I z 7 → w_X3_sendQueued K v2 z (fun r1 u2 => w_X3_passTime_14 K Q n (v1 + 1) (v2 + 1) u2))))))
def w_X3_passTime (K : Nat)  (z : St) (Q : Int32 → St → Prop) : Prop :=
  (∃ n9, w_X3_passTime_14 K Q n9 0 0 (s_I z 9 (g_I z 9 + 1)))
set_option maxHeartbeats 4000000 in
set_option maxRecDepth 100000 in
theorem l_X3_passTime_14 (l : Launch) (K : Nat) (cA : Nat → ClassId) (D : va_G) (a : Nat → Nat) (Q : Int32 → St → Prop) (p : Program) (e : Env) (s : State) (m : MethodId) (args : Array Value) (below : List Frame) (meth : Method) (c : Code) (hc : Cx TS NS CL D (tyX cA) p s m args meth c b_X3_passTime 3 y_X3_passTime.cls) (hr : meth.sig.returnType = (some .int)) : ∀ (n : Nat) (v1 : Int32) (v2 : Int32) (z : St), w_X3_passTime_14 K Q n v1 v2 z → V CL p l e { frames := 3, cells := 0, slots := 0, locals := 70 } s m args below meth c 3 D (AX 23 a s.heap.size) 0 0 (MQ below (Qg NS CL D (tyX cA) (WX K cA a) (AX 23 a s.heap.size) mkI Q) args s 0 0 (AX 23 a s.heap.size)) (WX K cA a z) 14 [(0, .ref (a 3)), (1, .int v1), (2, .int v2)] [] := by
  intro n
  induction n with
  | zero =>
    intro v1 v2 z hw
    exact hw.elim
  | succ n ih =>
    intro v1 v2 z hw
    unfold w_X3_passTime_14 at hw
    refine V_iload_n hc d_X3_passTime_14 rfl 2 rfl ?_
    refine V_aload_n hc d_X3_passTime_15 rfl 0 rfl ?_
    refine V_get (v := .int (g_I z 8)) hc uin_X3 3 eX_3 rfl 11 (by decide) k_156 rfl d_X3_passTime_16 ?_
    refine V_icmp_ge (tgt := 54) hc d_X3_passTime_19 rfl (fun h => ?_) (fun h => ?_)
    · replace hw := hw.1 h
      refine V_iload_n hc d_X3_passTime_54 rfl 1 rfl ?_
      exact V_iret hc NS_nest hr hw d_X3_passTime_55
    · replace hw := hw.2 h
      refine V_aload_n hc d_X3_passTime_22 rfl 0 rfl ?_
      refine V_get (v := .int (g_I z 9)) hc uin_X3 3 eX_3 rfl 12 (by decide) k_158 rfl d_X3_passTime_23 ?_
      refine V_aload_n hc d_X3_passTime_26 rfl 0 rfl ?_
      refine V_get (v := .ref (a 15)) hc uin_X3 3 eX_3 rfl 10 (by decide) k_155 rfl d_X3_passTime_27 ?_
      refine V_iload_n hc d_X3_passTime_30 rfl 2 rfl ?_
      obtain ⟨hi, hw⟩ := hw
      refine V_iald (x := g_A z 5 (v2 : Int32).toNatClampNeg) hc 15 0 eX_15 rfl hi rfl d_X3_passTime_31 ?_
      refine V_isub hc d_X3_passTime_32 rfl ?_
      refine V_aload_n hc d_X3_passTime_33 rfl 0 rfl ?_
      refine V_get (v := .int (g_I z 7)) hc uin_X3 3 eX_3 rfl 5 (by decide) k_149 rfl d_X3_passTime_34 ?_
      refine V_icmp_lt (tgt := 48) hc d_X3_passTime_37 rfl (fun h => ?_) (fun h => ?_)
      · replace hw := hw.1 h
        refine V_iinc (v := (v2 + 1)) hc [(2, .int (v2 + 1)), (0, .ref (a 3)), (1, .int v1)] d_X3_passTime_48 2 rfl (by rfl) (by decide) rfl ?_
        refine V_goto (tgt := 14) hc d_X3_passTime_51 rfl ?_
        refine V_sub [1, 2, 0] [(0, .ref (a 3)), (1, .int v1), (2, .int (v2 + 1))] rfl ?_
        exact ih v1 (v2 + 1) z hw
      · replace hw := hw.2 h
        refine V_aload_n hc d_X3_passTime_40 rfl 0 rfl ?_
        refine V_iload_n hc d_X3_passTime_41 rfl 2 rfl ?_
        refine V_callVv (As := [.int v2]) (st := []) hc TS_good NS_nest (fun _ h => h) (c_X3_sendQueued l K cA D a v2 z) k_426 k_6 k_429 k_428 kp_X3_sendQueued 3 eX_3 rfl q_X3_sendQueued (by decide) (Nat.zero_le _) (Nat.zero_le _) rfl (Nat.le_of_ble_eq_true rfl) d_X3_passTime_42 hw (fun r1 u2 hw => ?_)
        try dsimp only at hw
        refine V_iinc (v := (v1 + 1)) hc [(1, .int (v1 + 1)), (0, .ref (a 3)), (2, .int v2)] d_X3_passTime_45 1 rfl (by rfl) (by decide) rfl ?_
        refine V_iinc (v := (v2 + 1)) hc [(2, .int (v2 + 1)), (1, .int (v1 + 1)), (0, .ref (a 3))] d_X3_passTime_48 2 rfl (by rfl) (by decide) rfl ?_
        refine V_goto (tgt := 14) hc d_X3_passTime_51 rfl ?_
        refine V_sub [2, 1, 0] [(0, .ref (a 3)), (1, .int (v1 + 1)), (2, .int (v2 + 1))] rfl ?_
        exact ih (v1 + 1) (v2 + 1) u2 hw
set_option maxHeartbeats 4000000 in
set_option maxRecDepth 100000 in
theorem c_X3_passTime (l : Launch) (K : Nat) (cA : Nat → ClassId) (D : va_G) (a : Nat → Nat)  (z : St) : Ct l NS CL D (tyX cA) 23 a (WX K cA a) mkI y_X3_passTime (.code y_X3_passTime b_X3_passTime 3 (some .int) :: TS) { frames := 3, cells := 0, slots := 0, locals := 70 } [.ref (a 3)] z (w_X3_passTime K  z) := by
  refine Ct.of (by decide) (Nat.le_of_ble_eq_true rfl) adX ?_
  intro Q p e s m args below meth c hc hr hw
  unfold w_X3_passTime at hw
  refine V_st _ [(0, .ref (a 3))] _ rfl rfl rfl ?_
  refine V_aload_n hc d_X3_passTime_0 rfl 0 rfl ?_
  refine V_dup hc d_X3_passTime_1 rfl ?_
  refine V_get (v := .int (g_I z 9)) hc uin_X3 3 eX_3 rfl 12 (by decide) k_158 rfl d_X3_passTime_2 ?_
  refine V_iconst (v := 1) hc d_X3_passTime_5 (by decide) ?_
  refine V_iadd hc d_X3_passTime_6 rfl ?_
  refine V_put (ty := .int) hc uin_X3 3 eX_3 rfl 12 (by decide) t_X3 t_X3_ok n_X3 k_158 rfl (by decide +kernel) rfl rfl (Nat.le_of_ble_eq_true rfl) iX_9 d_X3_passTime_7 ?_
  refine V_iconst (v := 0) hc d_X3_passTime_10 (by decide) ?_
  refine V_istore_n hc [(1, .int 0), (0, .ref (a 3))] d_X3_passTime_11 rfl (by decide) rfl ?_
  refine V_iconst (v := 0) hc d_X3_passTime_12 (by decide) ?_
  refine V_istore_n hc [(2, .int 0), (1, .int 0), (0, .ref (a 3))] d_X3_passTime_13 rfl (by decide) rfl ?_
  obtain ⟨n9, hw⟩ := hw
  refine V_sub [2, 1, 0] [(0, .ref (a 3)), (1, .int 0), (2, .int 0)] rfl ?_
  exact l_X3_passTime_14 l K cA D a Q p e s m args below meth c hc hr n9 0 0 (s_I z 9 (g_I z 9 + 1)) hw
def w_X0_tick_17 (K : Nat) (Q : Int32 → St → Prop) : Nat → Int32 → Int32 → Int32 → St → Prop
  | 0, _, _, _, _ => False
  | n + 1, v1, v2, v3, z => ((v1 ≤ v3 → Q v2 z) ∧ (¬ v1 ≤ v3 → w_X3_passTime K  z (fun r1 u2 => w_X0_tick_17 K Q n v1 (v2 + r1) (v3 + 1) u2)))
def w_X0_tick (K : Nat) (x1 : Int32) (z : St) (Q : Int32 → St → Prop) : Prop :=
  ((x1 < 0 → Q (-2) z) ∧ (¬ x1 < 0 → ((x1 ≤ 50 → (∃ n9, w_X0_tick_17 K Q n9 x1 0 0 z)) ∧ (¬ x1 ≤ 50 → Q (-2) z))))
set_option maxHeartbeats 4000000 in
set_option maxRecDepth 100000 in
theorem l_X0_tick_17 (l : Launch) (K : Nat) (cA : Nat → ClassId) (D : va_G) (a : Nat → Nat) (Q : Int32 → St → Prop) (p : Program) (e : Env) (s : State) (m : MethodId) (args : Array Value) (below : List Frame) (meth : Method) (c : Code) (hc : Cx TS NS CL D (tyX cA) p s m args meth c b_X0_tick 4 y_X0_tick.cls) (hr : meth.sig.returnType = (some .int)) : ∀ (n : Nat) (v1 : Int32) (v2 : Int32) (v3 : Int32) (z : St), w_X0_tick_17 K Q n v1 v2 v3 z → V CL p l e { frames := 4, cells := 0, slots := 0, locals := 92 } s m args below meth c 4 D (AX 23 a s.heap.size) 0 0 (MQ below (Qg NS CL D (tyX cA) (WX K cA a) (AX 23 a s.heap.size) mkI Q) args s 0 0 (AX 23 a s.heap.size)) (WX K cA a z) 17 [(0, .ref (a 0)), (1, .int v1), (2, .int v2), (3, .int v3)] [] := by
  intro n
  induction n with
  | zero =>
    intro v1 v2 v3 z hw
    exact hw.elim
  | succ n ih =>
    intro v1 v2 v3 z hw
    unfold w_X0_tick_17 at hw
    refine V_iload_n hc d_X0_tick_17 rfl 3 rfl ?_
    refine V_iload_n hc d_X0_tick_18 rfl 1 rfl ?_
    refine V_icmp_ge (tgt := 38) hc d_X0_tick_19 rfl (fun h => ?_) (fun h => ?_)
    · replace hw := hw.1 h
      refine V_iload_n hc d_X0_tick_38 rfl 2 rfl ?_
      exact V_iret hc NS_nest hr hw d_X0_tick_39
    · replace hw := hw.2 h
      refine V_iload_n hc d_X0_tick_22 rfl 2 rfl ?_
      refine V_aload_n hc d_X0_tick_23 rfl 0 rfl ?_
      refine V_get (v := .ref (a 3)) hc uin_X0 0 eX_0 rfl 3 (by decide) k_236 rfl d_X0_tick_24 ?_
      refine V_callVi (As := []) (st := [.int v2]) hc TS_good NS_nest (fun _ h => h) (c_X3_passTime l K cA D a  z) k_467 k_6 k_470 k_468 k_469 3 eX_3 rfl q_X3_passTime (by decide) (Nat.zero_le _) (Nat.zero_le _) rfl (Nat.le_of_ble_eq_true rfl) d_X0_tick_27 hw (fun r1 u2 hw => ?_)
      try dsimp only at hw
      refine V_iadd hc d_X0_tick_30 rfl ?_
      refine V_istore_n hc [(2, .int (v2 + r1)), (0, .ref (a 0)), (1, .int v1), (3, .int v3)] d_X0_tick_31 rfl (by decide) rfl ?_
      refine V_iinc (v := (v3 + 1)) hc [(3, .int (v3 + 1)), (2, .int (v2 + r1)), (0, .ref (a 0)), (1, .int v1)] d_X0_tick_32 3 rfl (by rfl) (by decide) rfl ?_
      refine V_goto (tgt := 17) hc d_X0_tick_35 rfl ?_
      refine V_sub [2, 3, 1, 0] [(0, .ref (a 0)), (1, .int v1), (2, .int (v2 + r1)), (3, .int (v3 + 1))] rfl ?_
      exact ih v1 (v2 + r1) (v3 + 1) u2 hw
set_option maxHeartbeats 4000000 in
set_option maxRecDepth 100000 in
theorem c_X0_tick (l : Launch) (K : Nat) (cA : Nat → ClassId) (D : va_G) (a : Nat → Nat) (x1 : Int32) (z : St) : Ct l NS CL D (tyX cA) 23 a (WX K cA a) mkI y_X0_tick (.code y_X0_tick b_X0_tick 4 (some .int) :: TS) { frames := 4, cells := 0, slots := 0, locals := 92 } [.ref (a 0), .int x1] z (w_X0_tick K x1 z) := by
  refine Ct.of (by decide) (Nat.le_of_ble_eq_true rfl) adX ?_
  intro Q p e s m args below meth c hc hr hw
  unfold w_X0_tick at hw
  refine V_st _ [(0, .ref (a 0)), (1, .int x1)] _ rfl rfl rfl ?_
  refine V_iload_n hc d_X0_tick_0 rfl 1 rfl ?_
  refine V_if_lt (tgt := 10) hc d_X0_tick_1 rfl (fun h => ?_) (fun h => ?_)
  · replace hw := hw.1 h
    refine V_bipush (v := (-2)) hc d_X0_tick_10 (by decide) ?_
    exact V_iret hc NS_nest hr hw d_X0_tick_12
  · replace hw := hw.2 h
    refine V_iload_n hc d_X0_tick_4 rfl 1 rfl ?_
    refine V_bipush (v := 50) hc d_X0_tick_5 (by decide) ?_
    refine V_icmp_le (tgt := 13) hc d_X0_tick_7 rfl (fun h => ?_) (fun h => ?_)
    · replace hw := hw.1 h
      refine V_iconst (v := 0) hc d_X0_tick_13 (by decide) ?_
      refine V_istore_n hc [(2, .int 0), (0, .ref (a 0)), (1, .int x1)] d_X0_tick_14 rfl (by decide) rfl ?_
      refine V_iconst (v := 0) hc d_X0_tick_15 (by decide) ?_
      refine V_istore_n hc [(3, .int 0), (2, .int 0), (0, .ref (a 0)), (1, .int x1)] d_X0_tick_16 rfl (by decide) rfl ?_
      obtain ⟨n9, hw⟩ := hw
      refine V_sub [2, 3, 1, 0] [(0, .ref (a 0)), (1, .int x1), (2, .int 0), (3, .int 0)] rfl ?_
      exact l_X0_tick_17 l K cA D a Q p e s m args below meth c hc hr n9 x1 0 0 z hw
    · replace hw := hw.2 h
      refine V_bipush (v := (-2)) hc d_X0_tick_10 (by decide) ?_
      exact V_iret hc NS_nest hr hw d_X0_tick_12
def w_X2_holds (K : Nat) (x1 : Int32) (z : St) (Q : Int32 → St → Prop) : Prop :=
  ((x1 < 0 → Q 0 z) ∧ (¬ x1 < 0 → ((g_I z 3 ≤ x1 → Q 0 z) ∧ (¬ g_I z 3 ≤ x1 → Q 1 z))))
set_option maxHeartbeats 4000000 in
set_option maxRecDepth 100000 in
theorem c_X2_holds (l : Launch) (K : Nat) (cA : Nat → ClassId) (D : va_G) (a : Nat → Nat) (x1 : Int32) (z : St) : Ct l NS CL D (tyX cA) 23 a (WX K cA a) mkI y_X2_holds (.code y_X2_holds b_X2_holds 2 (some .boolean) :: TS) { frames := 0, cells := 0, slots := 0, locals := 0 } [.ref (a 2), .int x1] z (w_X2_holds K x1 z) := by
  refine Ct.of (by decide) (Nat.le_of_ble_eq_true rfl) adX ?_
  intro Q p e s m args below meth c hc hr hw
  unfold w_X2_holds at hw
  refine V_st _ [(0, .ref (a 2)), (1, .int x1)] _ rfl rfl rfl ?_
  refine V_iload_n hc d_X2_holds_0 rfl 1 rfl ?_
  refine V_if_lt (tgt := 16) hc d_X2_holds_1 rfl (fun h => ?_) (fun h => ?_)
  · replace hw := hw.1 h
    refine V_iconst (v := 0) hc d_X2_holds_16 (by decide) ?_
    exact V_zret hc NS_nest hr (by decide) hw d_X2_holds_17
  · replace hw := hw.2 h
    refine V_iload_n hc d_X2_holds_4 rfl 1 rfl ?_
    refine V_aload_n hc d_X2_holds_5 rfl 0 rfl ?_
    refine V_get (v := .int (g_I z 3)) hc uin_X2 2 eX_2 rfl 1 (by decide) k_102 rfl d_X2_holds_6 ?_
    refine V_icmp_ge (tgt := 16) hc d_X2_holds_9 rfl (fun h => ?_) (fun h => ?_)
    · replace hw := hw.1 h
      refine V_iconst (v := 0) hc d_X2_holds_16 (by decide) ?_
      exact V_zret hc NS_nest hr (by decide) hw d_X2_holds_17
    · replace hw := hw.2 h
      refine V_iconst (v := 1) hc d_X2_holds_12 (by decide) ?_
      refine V_goto (tgt := 17) hc d_X2_holds_13 rfl ?_
      exact V_zret hc NS_nest hr (by decide) hw d_X2_holds_17
def w_X2_word (K : Nat) (x1 : Int32) (x2 : Int32) (z : St) (Q : Int32 → St → Prop) : Prop :=
  (vp_in ((x1 * 4) + x2) 32 ∧ Q (g_A z 2 (((x1 * 4) + x2) : Int32).toNatClampNeg) z)
set_option maxHeartbeats 4000000 in
set_option maxRecDepth 100000 in
theorem c_X2_word (l : Launch) (K : Nat) (cA : Nat → ClassId) (D : va_G) (a : Nat → Nat) (x1 : Int32) (x2 : Int32) (z : St) : Ct l NS CL D (tyX cA) 23 a (WX K cA a) mkI y_X2_word (.code y_X2_word b_X2_word 3 (some .int) :: TS) { frames := 0, cells := 0, slots := 0, locals := 0 } [.ref (a 2), .int x1, .int x2] z (w_X2_word K x1 x2 z) := by
  refine Ct.of (by decide) (Nat.le_of_ble_eq_true rfl) adX ?_
  intro Q p e s m args below meth c hc hr hw
  unfold w_X2_word at hw
  refine V_st _ [(0, .ref (a 2)), (1, .int x1), (2, .int x2)] _ rfl rfl rfl ?_
  refine V_aload_n hc d_X2_word_0 rfl 0 rfl ?_
  refine V_get (v := .ref (a 11)) hc uin_X2 2 eX_2 rfl 0 (by decide) k_101 rfl d_X2_word_1 ?_
  refine V_iload_n hc d_X2_word_4 rfl 1 rfl ?_
  refine V_iconst (v := 4) hc d_X2_word_5 (by decide) ?_
  refine V_imul hc d_X2_word_6 rfl ?_
  refine V_iload_n hc d_X2_word_7 rfl 2 rfl ?_
  refine V_iadd hc d_X2_word_8 rfl ?_
  obtain ⟨hi, hw⟩ := hw
  refine V_iald (x := g_A z 2 (((x1 * 4) + x2) : Int32).toNatClampNeg) hc 11 0 eX_11 rfl hi rfl d_X2_word_9 ?_
  exact V_iret hc NS_nest hr hw d_X2_word_10
def w_X2_takeOut (K : Nat) (x1 : Int32) (z : St) (Q : Unit → St → Prop) : Prop :=
  (¬ ((x1 + 1) * 4) < 0 ∧ ¬ (x1 * 4) < 0 ∧ ¬ (((g_I z 3 - 1) - x1) * 4) < 0 ∧ (((x1 + 1) * 4) : Int32).toNatClampNeg + ((((g_I z 3 - 1) - x1) * 4) : Int32).toNatClampNeg ≤ 32 ∧ ((x1 * 4) : Int32).toNatClampNeg + ((((g_I z 3 - 1) - x1) * 4) : Int32).toNatClampNeg ≤ 32 ∧ Q () (s_F (s_I z 3 (g_I z 3 - 1)) 2 (va_cpy (g_A z 2) (g_A z 2) (((x1 + 1) * 4) : Int32).toNatClampNeg ((x1 * 4) : Int32).toNatClampNeg ((((g_I z 3 - 1) - x1) * 4) : Int32).toNatClampNeg)))
set_option maxHeartbeats 4000000 in
set_option maxRecDepth 100000 in
theorem c_X2_takeOut (l : Launch) (K : Nat) (cA : Nat → ClassId) (D : va_G) (a : Nat → Nat) (x1 : Int32) (z : St) : Ct l NS CL D (tyX cA) 23 a (WX K cA a) mkV y_X2_takeOut (.code y_X2_takeOut b_X2_takeOut 2 none :: TS) { frames := 1, cells := 0, slots := 0, locals := 48 } [.ref (a 2), .int x1] z (w_X2_takeOut K x1 z) := by
  refine Ct.of (by decide) (Nat.le_of_ble_eq_true rfl) adX ?_
  intro Q p e s m args below meth c hc hr hw
  unfold w_X2_takeOut at hw
  refine V_st _ [(0, .ref (a 2)), (1, .int x1)] _ rfl rfl rfl ?_
  refine V_aload_n hc d_X2_takeOut_0 rfl 0 rfl ?_
  refine V_dup hc d_X2_takeOut_1 rfl ?_
  refine V_get (v := .int (g_I z 3)) hc uin_X2 2 eX_2 rfl 1 (by decide) k_102 rfl d_X2_takeOut_2 ?_
  refine V_iconst (v := 1) hc d_X2_takeOut_5 (by decide) ?_
  refine V_isub hc d_X2_takeOut_6 rfl ?_
  refine V_put (ty := .int) hc uin_X2 2 eX_2 rfl 1 (by decide) t_X2 t_X2_ok n_X2 k_102 rfl (by decide +kernel) rfl rfl (Nat.le_of_ble_eq_true rfl) iX_3 d_X2_takeOut_7 ?_
  refine V_aload_n hc d_X2_takeOut_10 rfl 0 rfl ?_
  refine V_get (v := .ref (a 11)) hc uin_X2 2 eX_2 rfl 0 (by decide) k_101 rfl d_X2_takeOut_11 ?_
  refine V_iload_n hc d_X2_takeOut_14 rfl 1 rfl ?_
  refine V_iconst (v := 1) hc d_X2_takeOut_15 (by decide) ?_
  refine V_iadd hc d_X2_takeOut_16 rfl ?_
  refine V_iconst (v := 4) hc d_X2_takeOut_17 (by decide) ?_
  refine V_imul hc d_X2_takeOut_18 rfl ?_
  refine V_aload_n hc d_X2_takeOut_19 rfl 0 rfl ?_
  refine V_get (v := .ref (a 11)) hc uin_X2 2 eX_2 rfl 0 (by decide) k_101 rfl d_X2_takeOut_20 ?_
  refine V_iload_n hc d_X2_takeOut_23 rfl 1 rfl ?_
  refine V_iconst (v := 4) hc d_X2_takeOut_24 (by decide) ?_
  refine V_imul hc d_X2_takeOut_25 rfl ?_
  refine V_aload_n hc d_X2_takeOut_26 rfl 0 rfl ?_
  refine V_get (v := .int (g_I z 3 - 1)) hc uin_X2 2 eX_2 rfl 1 (by decide) k_102 rfl d_X2_takeOut_27 ?_
  refine V_iload_n hc d_X2_takeOut_30 rfl 1 rfl ?_
  refine V_isub hc d_X2_takeOut_31 rfl ?_
  refine V_iconst (v := 4) hc d_X2_takeOut_32 (by decide) ?_
  refine V_imul hc d_X2_takeOut_33 rfl ?_
  obtain ⟨h1, h2, h3, h4, h5, hw⟩ := hw
  refine V_copyi hc k_487 k_489 k_488 k_11 11 0 eX_11 rfl h1 h2 h3 h4 h5 (by decide) (Nat.le_of_ble_eq_true rfl) rX_11 d_X2_takeOut_34 ?_
  exact V_vret hc NS_nest hr hw d_X2_takeOut_37
def w_X3_dropUpTo_38 (K : Nat) (Q : Unit → St → Prop) : Nat → Int32 → Int32 → St → Prop
  | 0, _, _, _ => False
  | n + 1, v2, v3, z => ((g_I z 8 ≤ v3 → Q () z) ∧ (¬ g_I z 8 ≤ v3 → (vp_in (v3 + v2) 4 ∧ (vp_in v3 4 ∧ (vp_in (v3 + v2) 4 ∧ (vp_in v3 4 ∧ (vp_in (v3 + v2) 4 ∧ (vp_in v3 4 ∧ w_X3_dropUpTo_38 K Q n v2 (v3 + 1) (s_A (s_A (s_A z 3 (v3 : Int32).toNatClampNeg (g_A z 3 ((v3 + v2) : Int32).toNatClampNeg)) 4 (v3 : Int32).toNatClampNeg (g_A z 4 ((v3 + v2) : Int32).toNatClampNeg)) 5 (v3 : Int32).toNatClampNeg (g_A z 5 ((v3 + v2) : Int32).toNatClampNeg))))))))))
def w_X3_dropUpTo_2 (K : Nat) (Q : Unit → St → Prop) : Nat → Int32 → Int32 → St → Prop
  | 0, _, _, _ => False
  | n + 1, v1, v2, z => ((g_I z 8 ≤ v2 → (∃ n9, w_X3_dropUpTo_38 K Q n9 v2 0 (s_I z 8 (g_I z 8 - v2)))) ∧ (¬ g_I z 8 ≤ v2 → (vp_in v2 4 ∧ ((v1 < (g_A z 3 (v2 : Int32).toNatClampNeg) → (∃ n9, w_X3_dropUpTo_38 K Q n9 v2 0 (s_I z 8 (g_I z 8 - v2)))) ∧ (¬ v1 < (g_A z 3 (v2 : Int32).toNatClampNeg) → w_X3_dropUpTo_2 K Q n v1 (v2 + 1) z)))))
def w_X3_dropUpTo (K : Nat) (x1 : Int32) (z : St) (Q : Unit → St → Prop) : Prop :=
  (∃ n9, w_X3_dropUpTo_2 K Q n9 x1 0 z)
set_option maxHeartbeats 4000000 in
set_option maxRecDepth 100000 in
theorem l_X3_dropUpTo_38 (l : Launch) (K : Nat) (cA : Nat → ClassId) (D : va_G) (a : Nat → Nat) (Q : Unit → St → Prop) (p : Program) (e : Env) (s : State) (m : MethodId) (args : Array Value) (below : List Frame) (meth : Method) (c : Code) (hc : Cx TS NS CL D (tyX cA) p s m args meth c b_X3_dropUpTo 4 y_X3_dropUpTo.cls) (hr : meth.sig.returnType = none) : ∀ (n : Nat) (v2 : Int32) (v3 : Int32) (z : St), w_X3_dropUpTo_38 K Q n v2 v3 z → V CL p l e { frames := 0, cells := 0, slots := 0, locals := 0 } s m args below meth c 4 D (AX 23 a s.heap.size) 0 0 (MQ below (Qg NS CL D (tyX cA) (WX K cA a) (AX 23 a s.heap.size) mkV Q) args s 0 0 (AX 23 a s.heap.size)) (WX K cA a z) 38 [(0, .ref (a 3)), (2, .int v2), (3, .int v3)] [] := by
  intro n
  induction n with
  | zero =>
    intro v2 v3 z hw
    exact hw.elim
  | succ n ih =>
    intro v2 v3 z hw
    unfold w_X3_dropUpTo_38 at hw
    refine V_iload_n hc d_X3_dropUpTo_38 rfl 2 rfl ?_
    refine V_aload_n hc d_X3_dropUpTo_39 rfl 0 rfl ?_
    refine V_get (v := .int (g_I z 8)) hc uin_X3 3 eX_3 rfl 11 (by decide) k_156 rfl d_X3_dropUpTo_40 ?_
    refine V_icmp_ge (tgt := 94) hc d_X3_dropUpTo_43 rfl (fun h => ?_) (fun h => ?_)
    · replace hw := hw.1 h
      exact V_vret hc NS_nest hr hw d_X3_dropUpTo_94
    · replace hw := hw.2 h
      refine V_aload_n hc d_X3_dropUpTo_46 rfl 0 rfl ?_
      refine V_get (v := .ref (a 13)) hc uin_X3 3 eX_3 rfl 8 (by decide) k_153 rfl d_X3_dropUpTo_47 ?_
      refine V_iload_n hc d_X3_dropUpTo_50 rfl 2 rfl ?_
      refine V_aload_n hc d_X3_dropUpTo_51 rfl 0 rfl ?_
      refine V_get (v := .ref (a 13)) hc uin_X3 3 eX_3 rfl 8 (by decide) k_153 rfl d_X3_dropUpTo_52 ?_
      refine V_iload_n hc d_X3_dropUpTo_55 rfl 2 rfl ?_
      refine V_iload_n hc d_X3_dropUpTo_56 rfl 1 rfl ?_
      refine V_iadd hc d_X3_dropUpTo_57 rfl ?_
      obtain ⟨hi, hw⟩ := hw
      refine V_iald (x := g_A z 3 ((v3 + v2) : Int32).toNatClampNeg) hc 13 0 eX_13 rfl hi rfl d_X3_dropUpTo_58 ?_
      obtain ⟨hi, hw⟩ := hw
      refine V_iast hc 13 0 eX_13 rfl hi sX_13 d_X3_dropUpTo_59 ?_
      refine V_aload_n hc d_X3_dropUpTo_60 rfl 0 rfl ?_
      refine V_get (v := .ref (a 14)) hc uin_X3 3 eX_3 rfl 9 (by decide) k_154 rfl d_X3_dropUpTo_61 ?_
      refine V_iload_n hc d_X3_dropUpTo_64 rfl 2 rfl ?_
      refine V_aload_n hc d_X3_dropUpTo_65 rfl 0 rfl ?_
      refine V_get (v := .ref (a 14)) hc uin_X3 3 eX_3 rfl 9 (by decide) k_154 rfl d_X3_dropUpTo_66 ?_
      refine V_iload_n hc d_X3_dropUpTo_69 rfl 2 rfl ?_
      refine V_iload_n hc d_X3_dropUpTo_70 rfl 1 rfl ?_
      refine V_iadd hc d_X3_dropUpTo_71 rfl ?_
      obtain ⟨hi, hw⟩ := hw
      refine V_iald (x := g_A z 4 ((v3 + v2) : Int32).toNatClampNeg) hc 14 0 eX_14 rfl hi rfl d_X3_dropUpTo_72 ?_
      obtain ⟨hi, hw⟩ := hw
      refine V_iast hc 14 0 eX_14 rfl hi sX_14 d_X3_dropUpTo_73 ?_
      refine V_aload_n hc d_X3_dropUpTo_74 rfl 0 rfl ?_
      refine V_get (v := .ref (a 15)) hc uin_X3 3 eX_3 rfl 10 (by decide) k_155 rfl d_X3_dropUpTo_75 ?_
      refine V_iload_n hc d_X3_dropUpTo_78 rfl 2 rfl ?_
      refine V_aload_n hc d_X3_dropUpTo_79 rfl 0 rfl ?_
      refine V_get (v := .ref (a 15)) hc uin_X3 3 eX_3 rfl 10 (by decide) k_155 rfl d_X3_dropUpTo_80 ?_
      refine V_iload_n hc d_X3_dropUpTo_83 rfl 2 rfl ?_
      refine V_iload_n hc d_X3_dropUpTo_84 rfl 1 rfl ?_
      refine V_iadd hc d_X3_dropUpTo_85 rfl ?_
      obtain ⟨hi, hw⟩ := hw
      refine V_iald (x := g_A z 5 ((v3 + v2) : Int32).toNatClampNeg) hc 15 0 eX_15 rfl hi rfl d_X3_dropUpTo_86 ?_
      obtain ⟨hi, hw⟩ := hw
      refine V_iast hc 15 0 eX_15 rfl hi sX_15 d_X3_dropUpTo_87 ?_
      refine V_iinc (v := (v3 + 1)) hc [(3, .int (v3 + 1)), (0, .ref (a 3)), (2, .int v2)] d_X3_dropUpTo_88 2 rfl (by rfl) (by decide) rfl ?_
      refine V_goto (tgt := 38) hc d_X3_dropUpTo_91 rfl ?_
      refine V_sub [1, 2, 0] [(0, .ref (a 3)), (2, .int v2), (3, .int (v3 + 1))] rfl ?_
      exact ih v2 (v3 + 1) (s_A (s_A (s_A z 3 (v3 : Int32).toNatClampNeg (g_A z 3 ((v3 + v2) : Int32).toNatClampNeg)) 4 (v3 : Int32).toNatClampNeg (g_A z 4 ((v3 + v2) : Int32).toNatClampNeg)) 5 (v3 : Int32).toNatClampNeg (g_A z 5 ((v3 + v2) : Int32).toNatClampNeg)) hw
set_option maxHeartbeats 4000000 in
set_option maxRecDepth 100000 in
theorem l_X3_dropUpTo_2 (l : Launch) (K : Nat) (cA : Nat → ClassId) (D : va_G) (a : Nat → Nat) (Q : Unit → St → Prop) (p : Program) (e : Env) (s : State) (m : MethodId) (args : Array Value) (below : List Frame) (meth : Method) (c : Code) (hc : Cx TS NS CL D (tyX cA) p s m args meth c b_X3_dropUpTo 4 y_X3_dropUpTo.cls) (hr : meth.sig.returnType = none) : ∀ (n : Nat) (v1 : Int32) (v2 : Int32) (z : St), w_X3_dropUpTo_2 K Q n v1 v2 z → V CL p l e { frames := 0, cells := 0, slots := 0, locals := 0 } s m args below meth c 4 D (AX 23 a s.heap.size) 0 0 (MQ below (Qg NS CL D (tyX cA) (WX K cA a) (AX 23 a s.heap.size) mkV Q) args s 0 0 (AX 23 a s.heap.size)) (WX K cA a z) 2 [(0, .ref (a 3)), (1, .int v1), (2, .int v2)] [] := by
  intro n
  induction n with
  | zero =>
    intro v1 v2 z hw
    exact hw.elim
  | succ n ih =>
    intro v1 v2 z hw
    unfold w_X3_dropUpTo_2 at hw
    refine V_iload_n hc d_X3_dropUpTo_2 rfl 2 rfl ?_
    refine V_aload_n hc d_X3_dropUpTo_3 rfl 0 rfl ?_
    refine V_get (v := .int (g_I z 8)) hc uin_X3 3 eX_3 rfl 11 (by decide) k_156 rfl d_X3_dropUpTo_4 ?_
    refine V_icmp_ge (tgt := 26) hc d_X3_dropUpTo_7 rfl (fun h => ?_) (fun h => ?_)
    · replace hw := hw.1 h
      refine V_aload_n hc d_X3_dropUpTo_26 rfl 0 rfl ?_
      refine V_dup hc d_X3_dropUpTo_27 rfl ?_
      refine V_get (v := .int (g_I z 8)) hc uin_X3 3 eX_3 rfl 11 (by decide) k_156 rfl d_X3_dropUpTo_28 ?_
      refine V_iload_n hc d_X3_dropUpTo_31 rfl 2 rfl ?_
      refine V_isub hc d_X3_dropUpTo_32 rfl ?_
      refine V_put (ty := .int) hc uin_X3 3 eX_3 rfl 11 (by decide) t_X3 t_X3_ok n_X3 k_156 rfl (by decide +kernel) rfl rfl (Nat.le_of_ble_eq_true rfl) iX_8 d_X3_dropUpTo_33 ?_
      refine V_iconst (v := 0) hc d_X3_dropUpTo_36 (by decide) ?_
      refine V_istore_n hc [(3, .int 0), (0, .ref (a 3)), (1, .int v1), (2, .int v2)] d_X3_dropUpTo_37 rfl (by decide) rfl ?_
      obtain ⟨n9, hw⟩ := hw
      refine V_sub [1, 3, 0] [(0, .ref (a 3)), (2, .int v2), (3, .int 0)] rfl ?_
      exact l_X3_dropUpTo_38 l K cA D a Q p e s m args below meth c hc hr n9 v2 0 (s_I z 8 (g_I z 8 - v2)) hw
    · replace hw := hw.2 h
      refine V_aload_n hc d_X3_dropUpTo_10 rfl 0 rfl ?_
      refine V_get (v := .ref (a 13)) hc uin_X3 3 eX_3 rfl 8 (by decide) k_153 rfl d_X3_dropUpTo_11 ?_
      refine V_iload_n hc d_X3_dropUpTo_14 rfl 2 rfl ?_
      obtain ⟨hi, hw⟩ := hw
      refine V_iald (x := g_A z 3 (v2 : Int32).toNatClampNeg) hc 13 0 eX_13 rfl hi rfl d_X3_dropUpTo_15 ?_
      refine V_iload_n hc d_X3_dropUpTo_16 rfl 1 rfl ?_
      refine V_icmp_gt (tgt := 26) hc d_X3_dropUpTo_17 rfl (fun h => ?_) (fun h => ?_)
      · replace hw := hw.1 h
        refine V_aload_n hc d_X3_dropUpTo_26 rfl 0 rfl ?_
        refine V_dup hc d_X3_dropUpTo_27 rfl ?_
        refine V_get (v := .int (g_I z 8)) hc uin_X3 3 eX_3 rfl 11 (by decide) k_156 rfl d_X3_dropUpTo_28 ?_
        refine V_iload_n hc d_X3_dropUpTo_31 rfl 2 rfl ?_
        refine V_isub hc d_X3_dropUpTo_32 rfl ?_
        refine V_put (ty := .int) hc uin_X3 3 eX_3 rfl 11 (by decide) t_X3 t_X3_ok n_X3 k_156 rfl (by decide +kernel) rfl rfl (Nat.le_of_ble_eq_true rfl) iX_8 d_X3_dropUpTo_33 ?_
        refine V_iconst (v := 0) hc d_X3_dropUpTo_36 (by decide) ?_
        refine V_istore_n hc [(3, .int 0), (0, .ref (a 3)), (1, .int v1), (2, .int v2)] d_X3_dropUpTo_37 rfl (by decide) rfl ?_
        obtain ⟨n9, hw⟩ := hw
        refine V_sub [1, 3, 0] [(0, .ref (a 3)), (2, .int v2), (3, .int 0)] rfl ?_
        exact l_X3_dropUpTo_38 l K cA D a Q p e s m args below meth c hc hr n9 v2 0 (s_I z 8 (g_I z 8 - v2)) hw
      · replace hw := hw.2 h
        refine V_iinc (v := (v2 + 1)) hc [(2, .int (v2 + 1)), (0, .ref (a 3)), (1, .int v1)] d_X3_dropUpTo_20 2 rfl (by rfl) (by decide) rfl ?_
        refine V_goto (tgt := 2) hc d_X3_dropUpTo_23 rfl ?_
        refine V_sub [1, 2, 0] [(0, .ref (a 3)), (1, .int v1), (2, .int (v2 + 1))] rfl ?_
        exact ih v1 (v2 + 1) z hw
set_option maxHeartbeats 4000000 in
set_option maxRecDepth 100000 in
theorem c_X3_dropUpTo (l : Launch) (K : Nat) (cA : Nat → ClassId) (D : va_G) (a : Nat → Nat) (x1 : Int32) (z : St) : Ct l NS CL D (tyX cA) 23 a (WX K cA a) mkV y_X3_dropUpTo (.code y_X3_dropUpTo b_X3_dropUpTo 4 none :: TS) { frames := 0, cells := 0, slots := 0, locals := 0 } [.ref (a 3), .int x1] z (w_X3_dropUpTo K x1 z) := by
  refine Ct.of (by decide) (Nat.le_of_ble_eq_true rfl) adX ?_
  intro Q p e s m args below meth c hc hr hw
  unfold w_X3_dropUpTo at hw
  refine V_st _ [(0, .ref (a 3)), (1, .int x1)] _ rfl rfl rfl ?_
  refine V_iconst (v := 0) hc d_X3_dropUpTo_0 (by decide) ?_
  refine V_istore_n hc [(2, .int 0), (0, .ref (a 3)), (1, .int x1)] d_X3_dropUpTo_1 rfl (by decide) rfl ?_
  obtain ⟨n9, hw⟩ := hw
  refine V_sub [1, 2, 0] [(0, .ref (a 3)), (1, .int x1), (2, .int 0)] rfl ?_
  exact l_X3_dropUpTo_2 l K cA D a Q p e s m args below meth c hc hr n9 x1 0 z hw
def w_X0_sendAck (K : Nat)  (z : St) (Q : Unit → St → Prop) : Prop :=
  w_X2_send K 2 (g_I z 17) 0 z (fun r1 u2 => Q () u2)
set_option maxHeartbeats 4000000 in
set_option maxRecDepth 100000 in
theorem c_X0_sendAck (l : Launch) (K : Nat) (cA : Nat → ClassId) (D : va_G) (a : Nat → Nat)  (z : St) : Ct l NS CL D (tyX cA) 23 a (WX K cA a) mkV y_X0_sendAck (.code y_X0_sendAck b_X0_sendAck 1 none :: TS) { frames := 2, cells := 0, slots := 0, locals := 48 } [.ref (a 0)] z (w_X0_sendAck K  z) := by
  refine Ct.of (by decide) (Nat.le_of_ble_eq_true rfl) adX ?_
  intro Q p e s m args below meth c hc hr hw
  unfold w_X0_sendAck at hw
  refine V_st _ [(0, .ref (a 0))] _ rfl rfl rfl ?_
  refine V_aload_n hc d_X0_sendAck_0 rfl 0 rfl ?_
  refine V_get (v := .ref (a 2)) hc uin_X0 0 eX_0 rfl 2 (by decide) k_235 rfl d_X0_sendAck_1 ?_
  refine V_iconst (v := 2) hc d_X0_sendAck_4 (by decide) ?_
  refine V_aload_n hc d_X0_sendAck_5 rfl 0 rfl ?_
  refine V_get (v := .ref (a 4)) hc uin_X0 0 eX_0 rfl 4 (by decide) k_237 rfl d_X0_sendAck_6 ?_
  refine V_getN (v := .int (g_I z 17)) hc uin_X4 4 eX_4 rfl 5 (by decide) k_215 rfl d_X0_sendAck_9 ?_
  refine V_iconst (v := 0) hc d_X0_sendAck_12 (by decide) ?_
  refine V_callVv (As := [.int 2, .int (g_I z 17), .int 0]) (st := []) hc TS_good NS_nest (fun _ h => h) (c_X2_send l K cA D a 2 (g_I z 17) 0 z) k_498 k_5 k_433 k_431 k_432 2 eX_2 rfl q_X2_send (by decide) (Nat.zero_le _) (Nat.zero_le _) rfl (Nat.le_of_ble_eq_true rfl) d_X0_sendAck_13 hw (fun r1 u2 hw => ?_)
  try dsimp only at hw
  exact V_vret hc NS_nest hr hw d_X0_sendAck_16
def w_X4_offer (K : Nat) (x1 : Int32) (x2 : Int32) (z : St) (Q : Unit → St → Prop) : Prop :=
  ((¬ x2 = g_I z 17 → Q () z) ∧ (x2 = g_I z 17 → ((¬ g_I z 16 = (-1) → Q () z) ∧ (g_I z 16 = (-1) → Q () (s_I z 16 x1)))))
set_option maxHeartbeats 4000000 in
set_option maxRecDepth 100000 in
theorem c_X4_offer (l : Launch) (K : Nat) (cA : Nat → ClassId) (D : va_G) (a : Nat → Nat) (x1 : Int32) (x2 : Int32) (z : St) : Ct l NS CL D (tyX cA) 23 a (WX K cA a) mkV y_X4_offer (.code y_X4_offer b_X4_offer 3 none :: TS) { frames := 0, cells := 0, slots := 0, locals := 0 } [.ref (a 4), .int x1, .int x2] z (w_X4_offer K x1 x2 z) := by
  refine Ct.of (by decide) (Nat.le_of_ble_eq_true rfl) adX ?_
  intro Q p e s m args below meth c hc hr hw
  unfold w_X4_offer at hw
  refine V_st _ [(0, .ref (a 4)), (1, .int x1), (2, .int x2)] _ rfl rfl rfl ?_
  refine V_iload_n hc d_X4_offer_0 rfl 2 rfl ?_
  refine V_aload_n hc d_X4_offer_1 rfl 0 rfl ?_
  refine V_get (v := .int (g_I z 17)) hc uin_X4 4 eX_4 rfl 5 (by decide) k_214 rfl d_X4_offer_2 ?_
  refine V_icmp_ne (tgt := 21) hc d_X4_offer_5 rfl (fun h => ?_) (fun h => ?_)
  · replace hw := hw.1 h
    exact V_vret hc NS_nest hr hw d_X4_offer_21
  · replace hw := hw.2 h
    refine V_aload_n hc d_X4_offer_8 rfl 0 rfl ?_
    refine V_get (v := .int (g_I z 16)) hc uin_X4 4 eX_4 rfl 4 (by decide) k_213 rfl d_X4_offer_9 ?_
    refine V_iconst (v := (-1)) hc d_X4_offer_12 (by decide) ?_
    refine V_icmp_ne (tgt := 21) hc d_X4_offer_13 rfl (fun h => ?_) (fun h => ?_)
    · replace hw := hw.1 h
      exact V_vret hc NS_nest hr hw d_X4_offer_21
    · replace hw := hw.2 h
      refine V_aload_n hc d_X4_offer_16 rfl 0 rfl ?_
      refine V_iload_n hc d_X4_offer_17 rfl 1 rfl ?_
      refine V_put (ty := .int) hc uin_X4 4 eX_4 rfl 4 (by decide) t_X4 t_X4_ok n_X4 k_213 rfl (by decide +kernel) rfl rfl (Nat.le_of_ble_eq_true rfl) iX_16 d_X4_offer_18 ?_
      exact V_vret hc NS_nest hr hw d_X4_offer_21
def w_X0_deliver (K : Nat) (x1 : Int32) (z : St) (Q : Int32 → St → Prop) : Prop :=
  w_X2_holds K x1 z (fun r1 u2 => ((¬ r1 = 0 → w_X2_word K x1 0 u2 (fun r3 u4 => w_X2_word K x1 1 u4 (fun r5 u6 => w_X2_word K x1 2 u6 (fun r7 u8 => w_X2_word K x1 3 u8 (fun r9 u10 => w_X2_takeOut K x1 u10 (fun r11 u12 => ((r5 = g_I u12 4 → ((¬ r3 = 2 → ((g_I u12 17 < r7 → w_X4_offer K r7 r9 u12 (fun r13 u14 => Q 1 u14)) ∧ (¬ g_I u12 17 < r7 → w_X0_sendAck K  u12 (fun r15 u16 => Q 1 u16)))) ∧ (r3 = 2 → w_X3_dropUpTo K r7 u12 (fun r17 u18 => Q 1 u18)))) ∧ (¬ r5 = g_I u12 4 → Q 1 u12)))))))) ∧ (r1 = 0 → Q 0 u2)))
set_option maxHeartbeats 4000000 in
set_option maxRecDepth 100000 in
theorem c_X0_deliver (l : Launch) (K : Nat) (cA : Nat → ClassId) (D : va_G) (a : Nat → Nat) (x1 : Int32) (z : St) : Ct l NS CL D (tyX cA) 23 a (WX K cA a) mkI y_X0_deliver (.code y_X0_deliver b_X0_deliver 6 (some .boolean) :: TS) { frames := 3, cells := 0, slots := 0, locals := 69 } [.ref (a 0), .int x1] z (w_X0_deliver K x1 z) := by
  refine Ct.of (by decide) (Nat.le_of_ble_eq_true rfl) adX ?_
  intro Q p e s m args below meth c hc hr hw
  unfold w_X0_deliver at hw
  refine V_st _ [(0, .ref (a 0)), (1, .int x1)] _ rfl rfl rfl ?_
  refine V_aload_n hc d_X0_deliver_0 rfl 0 rfl ?_
  refine V_get (v := .ref (a 2)) hc uin_X0 0 eX_0 rfl 2 (by decide) k_235 rfl d_X0_deliver_1 ?_
  refine V_iload_n hc d_X0_deliver_4 rfl 1 rfl ?_
  refine V_callVi (As := [.int x1]) (st := []) hc TS_good NS_nest (fun _ h => h) (c_X2_holds l K cA D a x1 z) k_475 k_5 k_478 k_476 k_477 2 eX_2 rfl q_X2_holds (by decide) (Nat.zero_le _) (Nat.zero_le _) rfl (Nat.le_of_ble_eq_true rfl) d_X0_deliver_5 hw (fun r1 u2 hw => ?_)
  try dsimp only at hw
  refine V_if_ne (tgt := 13) hc d_X0_deliver_8 rfl (fun h => ?_) (fun h => ?_)
  · replace hw := hw.1 h
    refine V_aload_n hc d_X0_deliver_13 rfl 0 rfl ?_
    refine V_get (v := .ref (a 2)) hc uin_X0 0 eX_0 rfl 2 (by decide) k_235 rfl d_X0_deliver_14 ?_
    refine V_iload_n hc d_X0_deliver_17 rfl 1 rfl ?_
    refine V_iconst (v := 0) hc d_X0_deliver_18 (by decide) ?_
    refine V_callVi (As := [.int x1, .int 0]) (st := []) hc TS_good NS_nest (fun _ h => h) (c_X2_word l K cA D a x1 0 u2) k_479 k_5 k_482 k_480 k_481 2 eX_2 rfl q_X2_word (by decide) (Nat.zero_le _) (Nat.zero_le _) rfl (Nat.le_of_ble_eq_true rfl) d_X0_deliver_19 hw (fun r3 u4 hw => ?_)
    try dsimp only at hw
    refine V_istore_n hc [(2, .int r3), (0, .ref (a 0)), (1, .int x1)] d_X0_deliver_22 rfl (by decide) rfl ?_
    refine V_aload_n hc d_X0_deliver_23 rfl 1 rfl ?_
    refine V_get (v := .ref (a 2)) hc uin_X0 0 eX_0 rfl 2 (by decide) k_235 rfl d_X0_deliver_24 ?_
    refine V_iload_n hc d_X0_deliver_27 rfl 2 rfl ?_
    refine V_iconst (v := 1) hc d_X0_deliver_28 (by decide) ?_
    refine V_callVi (As := [.int x1, .int 1]) (st := []) hc TS_good NS_nest (fun _ h => h) (c_X2_word l K cA D a x1 1 u4) k_479 k_5 k_482 k_480 k_481 2 eX_2 rfl q_X2_word (by decide) (Nat.zero_le _) (Nat.zero_le _) rfl (Nat.le_of_ble_eq_true rfl) d_X0_deliver_29 hw (fun r5 u6 hw => ?_)
    try dsimp only at hw
    refine V_istore_n hc [(3, .int r5), (2, .int r3), (0, .ref (a 0)), (1, .int x1)] d_X0_deliver_32 rfl (by decide) rfl ?_
    refine V_aload_n hc d_X0_deliver_33 rfl 2 rfl ?_
    refine V_get (v := .ref (a 2)) hc uin_X0 0 eX_0 rfl 2 (by decide) k_235 rfl d_X0_deliver_34 ?_
    refine V_iload_n hc d_X0_deliver_37 rfl 3 rfl ?_
    refine V_iconst (v := 2) hc d_X0_deliver_38 (by decide) ?_
    refine V_callVi (As := [.int x1, .int 2]) (st := []) hc TS_good NS_nest (fun _ h => h) (c_X2_word l K cA D a x1 2 u6) k_479 k_5 k_482 k_480 k_481 2 eX_2 rfl q_X2_word (by decide) (Nat.zero_le _) (Nat.zero_le _) rfl (Nat.le_of_ble_eq_true rfl) d_X0_deliver_39 hw (fun r7 u8 hw => ?_)
    try dsimp only at hw
    refine V_istore hc [(4, .int r7), (3, .int r5), (2, .int r3), (0, .ref (a 0)), (1, .int x1)] d_X0_deliver_42 (by decide) rfl ?_
    refine V_aload_n hc d_X0_deliver_44 rfl 3 rfl ?_
    refine V_get (v := .ref (a 2)) hc uin_X0 0 eX_0 rfl 2 (by decide) k_235 rfl d_X0_deliver_45 ?_
    refine V_iload_n hc d_X0_deliver_48 rfl 4 rfl ?_
    refine V_iconst (v := 3) hc d_X0_deliver_49 (by decide) ?_
    refine V_callVi (As := [.int x1, .int 3]) (st := []) hc TS_good NS_nest (fun _ h => h) (c_X2_word l K cA D a x1 3 u8) k_479 k_5 k_482 k_480 k_481 2 eX_2 rfl q_X2_word (by decide) (Nat.zero_le _) (Nat.zero_le _) rfl (Nat.le_of_ble_eq_true rfl) d_X0_deliver_50 hw (fun r9 u10 hw => ?_)
    try dsimp only at hw
    refine V_istore hc [(5, .int r9), (4, .int r7), (3, .int r5), (2, .int r3), (0, .ref (a 0)), (1, .int x1)] d_X0_deliver_53 (by decide) rfl ?_
    refine V_aload_n hc d_X0_deliver_55 rfl 4 rfl ?_
    refine V_get (v := .ref (a 2)) hc uin_X0 0 eX_0 rfl 2 (by decide) k_235 rfl d_X0_deliver_56 ?_
    refine V_iload_n hc d_X0_deliver_59 rfl 5 rfl ?_
    refine V_callVv (As := [.int x1]) (st := []) hc TS_good NS_nest (fun _ h => h) (c_X2_takeOut l K cA D a x1 u10) k_483 k_5 k_486 k_484 k_485 2 eX_2 rfl q_X2_takeOut (by decide) (Nat.zero_le _) (Nat.zero_le _) rfl (Nat.le_of_ble_eq_true rfl) d_X0_deliver_60 hw (fun r11 u12 hw => ?_)
    try dsimp only at hw
    refine V_iload_n hc d_X0_deliver_63 rfl 2 rfl ?_
    refine V_aload_n hc d_X0_deliver_64 rfl 4 rfl ?_
    refine V_get (v := .ref (a 2)) hc uin_X0 0 eX_0 rfl 2 (by decide) k_235 rfl d_X0_deliver_65 ?_
    refine V_getN (v := .int (g_I u12 4)) hc uin_X2 2 eX_2 rfl 2 (by decide) k_105 rfl d_X0_deliver_68 ?_
    refine V_icmp_eq (tgt := 76) hc d_X0_deliver_71 rfl (fun h => ?_) (fun h => ?_)
    · replace hw := hw.1 h
      refine V_iload_n hc d_X0_deliver_76 rfl 3 rfl ?_
      refine V_iconst (v := 2) hc d_X0_deliver_77 (by decide) ?_
      refine V_icmp_ne (tgt := 93) hc d_X0_deliver_78 rfl (fun h => ?_) (fun h => ?_)
      · replace hw := hw.1 h
        refine V_iload hc d_X0_deliver_93 1 rfl ?_
        refine V_aload_n hc d_X0_deliver_95 rfl 4 rfl ?_
        refine V_get (v := .ref (a 4)) hc uin_X0 0 eX_0 rfl 4 (by decide) k_237 rfl d_X0_deliver_96 ?_
        refine V_getN (v := .int (g_I u12 17)) hc uin_X4 4 eX_4 rfl 5 (by decide) k_215 rfl d_X0_deliver_99 ?_
        refine V_icmp_gt (tgt := 112) hc d_X0_deliver_102 rfl (fun h => ?_) (fun h => ?_)
        · replace hw := hw.1 h
          refine V_aload_n hc d_X0_deliver_112 rfl 4 rfl ?_
          refine V_get (v := .ref (a 4)) hc uin_X0 0 eX_0 rfl 4 (by decide) k_237 rfl d_X0_deliver_113 ?_
          refine V_iload hc d_X0_deliver_116 1 rfl ?_
          refine V_iload hc d_X0_deliver_118 0 rfl ?_
          refine V_callVv (As := [.int r7, .int r9]) (st := []) hc TS_good NS_nest (fun _ h => h) (c_X4_offer l K cA D a r7 r9 u12) k_499 k_8 k_502 k_500 k_501 4 eX_4 rfl q_X4_offer (by decide) (Nat.zero_le _) (Nat.zero_le _) rfl (Nat.le_of_ble_eq_true rfl) d_X0_deliver_120 hw (fun r13 u14 hw => ?_)
          try dsimp only at hw
          refine V_iconst (v := 1) hc d_X0_deliver_123 (by decide) ?_
          exact V_zret hc NS_nest hr (by decide) hw d_X0_deliver_124
        · replace hw := hw.2 h
          refine V_aload_n hc d_X0_deliver_105 rfl 4 rfl ?_
          refine V_callVv (As := []) (st := []) hc TS_good NS_nest (fun _ h => h) (c_X0_sendAck l K cA D a  u12) k_494 k_1 k_497 k_496 kp_X0_sendAck 0 eX_0 rfl q_X0_sendAck (by decide) (Nat.zero_le _) (Nat.zero_le _) rfl (Nat.le_of_ble_eq_true rfl) d_X0_deliver_106 hw (fun r15 u16 hw => ?_)
          try dsimp only at hw
          refine V_goto (tgt := 123) hc d_X0_deliver_109 rfl ?_
          refine V_iconst (v := 1) hc d_X0_deliver_123 (by decide) ?_
          exact V_zret hc NS_nest hr (by decide) hw d_X0_deliver_124
      · replace hw := hw.2 h
        refine V_aload_n hc d_X0_deliver_81 rfl 4 rfl ?_
        refine V_get (v := .ref (a 3)) hc uin_X0 0 eX_0 rfl 3 (by decide) k_236 rfl d_X0_deliver_82 ?_
        refine V_iload hc d_X0_deliver_85 1 rfl ?_
        refine V_callVv (As := [.int r7]) (st := []) hc TS_good NS_nest (fun _ h => h) (c_X3_dropUpTo l K cA D a r7 u12) k_490 k_6 k_493 k_491 k_492 3 eX_3 rfl q_X3_dropUpTo (by decide) (Nat.zero_le _) (Nat.zero_le _) rfl (Nat.le_of_ble_eq_true rfl) d_X0_deliver_87 hw (fun r17 u18 hw => ?_)
        try dsimp only at hw
        refine V_goto (tgt := 123) hc d_X0_deliver_90 rfl ?_
        refine V_iconst (v := 1) hc d_X0_deliver_123 (by decide) ?_
        exact V_zret hc NS_nest hr (by decide) hw d_X0_deliver_124
    · replace hw := hw.2 h
      refine V_iconst (v := 1) hc d_X0_deliver_74 (by decide) ?_
      exact V_zret hc NS_nest hr (by decide) hw d_X0_deliver_75
  · replace hw := hw.2 h
    refine V_iconst (v := 0) hc d_X0_deliver_11 (by decide) ?_
    exact V_zret hc NS_nest hr (by decide) hw d_X0_deliver_12
def w_X2_repeat (K : Nat) (x1 : Int32) (z : St) (Q : Int32 → St → Prop) : Prop :=
  w_X2_word K x1 0 z (fun r1 u2 => w_X2_word K x1 1 u2 (fun r3 u4 => w_X2_word K x1 2 u4 (fun r5 u6 => w_X2_word K x1 3 u6 (fun r7 u8 => w_X2_append K r1 r3 r5 r7 u8 (fun r9 u10 => (narrow .boolean (.int r9) = .int r9 ∧ Q r9 u10))))))
set_option maxHeartbeats 4000000 in
set_option maxRecDepth 100000 in
theorem c_X2_repeat (l : Launch) (K : Nat) (cA : Nat → ClassId) (D : va_G) (a : Nat → Nat) (x1 : Int32) (z : St) : Ct l NS CL D (tyX cA) 23 a (WX K cA a) mkI y_X2_repeat (.code y_X2_repeat b_X2_repeat 2 (some .boolean) :: TS) { frames := 1, cells := 0, slots := 0, locals := 25 } [.ref (a 2), .int x1] z (w_X2_repeat K x1 z) := by
  refine Ct.of (by decide) (Nat.le_of_ble_eq_true rfl) adX ?_
  intro Q p e s m args below meth c hc hr hw
  unfold w_X2_repeat at hw
  refine V_st _ [(0, .ref (a 2)), (1, .int x1)] _ rfl rfl rfl ?_
  refine V_aload_n hc d_X2_repeat_0 rfl 0 rfl ?_
  refine V_aload_n hc d_X2_repeat_1 rfl 0 rfl ?_
  refine V_iload_n hc d_X2_repeat_2 rfl 1 rfl ?_
  refine V_iconst (v := 0) hc d_X2_repeat_3 (by decide) ?_
  refine V_callVi (As := [.int x1, .int 0]) (st := [.ref (a 2)]) hc TS_good NS_nest (fun _ h => h) (c_X2_word l K cA D a x1 0 z) k_511 k_5 k_482 k_480 k_481 2 eX_2 rfl q_X2_word (by decide) (Nat.zero_le _) (Nat.zero_le _) rfl (Nat.le_of_ble_eq_true rfl) d_X2_repeat_4 hw (fun r1 u2 hw => ?_)
  try dsimp only at hw
  refine V_aload_n hc d_X2_repeat_7 rfl 0 rfl ?_
  refine V_iload_n hc d_X2_repeat_8 rfl 1 rfl ?_
  refine V_iconst (v := 1) hc d_X2_repeat_9 (by decide) ?_
  refine V_callVi (As := [.int x1, .int 1]) (st := [.int r1, .ref (a 2)]) hc TS_good NS_nest (fun _ h => h) (c_X2_word l K cA D a x1 1 u2) k_511 k_5 k_482 k_480 k_481 2 eX_2 rfl q_X2_word (by decide) (Nat.zero_le _) (Nat.zero_le _) rfl (Nat.le_of_ble_eq_true rfl) d_X2_repeat_10 hw (fun r3 u4 hw => ?_)
  try dsimp only at hw
  refine V_aload_n hc d_X2_repeat_13 rfl 0 rfl ?_
  refine V_iload_n hc d_X2_repeat_14 rfl 1 rfl ?_
  refine V_iconst (v := 2) hc d_X2_repeat_15 (by decide) ?_
  refine V_callVi (As := [.int x1, .int 2]) (st := [.int r3, .int r1, .ref (a 2)]) hc TS_good NS_nest (fun _ h => h) (c_X2_word l K cA D a x1 2 u4) k_511 k_5 k_482 k_480 k_481 2 eX_2 rfl q_X2_word (by decide) (Nat.zero_le _) (Nat.zero_le _) rfl (Nat.le_of_ble_eq_true rfl) d_X2_repeat_16 hw (fun r5 u6 hw => ?_)
  try dsimp only at hw
  refine V_aload_n hc d_X2_repeat_19 rfl 0 rfl ?_
  refine V_iload_n hc d_X2_repeat_20 rfl 1 rfl ?_
  refine V_iconst (v := 3) hc d_X2_repeat_21 (by decide) ?_
  refine V_callVi (As := [.int x1, .int 3]) (st := [.int r5, .int r3, .int r1, .ref (a 2)]) hc TS_good NS_nest (fun _ h => h) (c_X2_word l K cA D a x1 3 u6) k_511 k_5 k_482 k_480 k_481 2 eX_2 rfl q_X2_word (by decide) (Nat.zero_le _) (Nat.zero_le _) rfl (Nat.le_of_ble_eq_true rfl) d_X2_repeat_22 hw (fun r7 u8 hw => ?_)
  try dsimp only at hw
  refine V_callVi (As := [.int r1, .int r3, .int r5, .int r7]) (st := []) hc TS_good NS_nest (fun _ h => h) (c_X2_append l K cA D a r1 r3 r5 r7 u8) k_434 k_5 k_437 k_436 kp_X2_append 2 eX_2 rfl q_X2_append (by decide) (Nat.zero_le _) (Nat.zero_le _) rfl (Nat.le_of_ble_eq_true rfl) d_X2_repeat_25 hw (fun r9 u10 hw => ?_)
  try dsimp only at hw
  exact V_zret hc NS_nest hr hw.1 hw.2 d_X2_repeat_28
def w_X0_alter (K : Nat) (x1 : Int32) (x2 : Int32) (z : St) (Q : Int32 → St → Prop) : Prop :=
  w_X2_holds K x1 z (fun r1 u2 => ((¬ r1 = 0 → ((x2 = 0 → w_X2_takeOut K x1 u2 (fun r3 u4 => Q 1 u4)) ∧ (¬ x2 = 0 → w_X2_repeat K x1 u2 (fun r5 u6 => (narrow .boolean (.int r5) = .int r5 ∧ Q r5 u6))))) ∧ (r1 = 0 → Q 0 u2)))
set_option maxHeartbeats 4000000 in
set_option maxRecDepth 100000 in
theorem c_X0_alter (l : Launch) (K : Nat) (cA : Nat → ClassId) (D : va_G) (a : Nat → Nat) (x1 : Int32) (x2 : Int32) (z : St) : Ct l NS CL D (tyX cA) 23 a (WX K cA a) mkI y_X0_alter (.code y_X0_alter b_X0_alter 3 (some .boolean) :: TS) { frames := 2, cells := 0, slots := 0, locals := 69 } [.ref (a 0), .int x1, .int x2] z (w_X0_alter K x1 x2 z) := by
  refine Ct.of (by decide) (Nat.le_of_ble_eq_true rfl) adX ?_
  intro Q p e s m args below meth c hc hr hw
  unfold w_X0_alter at hw
  refine V_st _ [(0, .ref (a 0)), (1, .int x1), (2, .int x2)] _ rfl rfl rfl ?_
  refine V_aload_n hc d_X0_alter_0 rfl 0 rfl ?_
  refine V_get (v := .ref (a 2)) hc uin_X0 0 eX_0 rfl 2 (by decide) k_235 rfl d_X0_alter_1 ?_
  refine V_iload_n hc d_X0_alter_4 rfl 1 rfl ?_
  refine V_callVi (As := [.int x1]) (st := []) hc TS_good NS_nest (fun _ h => h) (c_X2_holds l K cA D a x1 z) k_475 k_5 k_478 k_476 k_477 2 eX_2 rfl q_X2_holds (by decide) (Nat.zero_le _) (Nat.zero_le _) rfl (Nat.le_of_ble_eq_true rfl) d_X0_alter_5 hw (fun r1 u2 hw => ?_)
  try dsimp only at hw
  refine V_if_ne (tgt := 13) hc d_X0_alter_8 rfl (fun h => ?_) (fun h => ?_)
  · replace hw := hw.1 h
    refine V_iload_n hc d_X0_alter_13 rfl 2 rfl ?_
    refine V_if_eq (tgt := 26) hc d_X0_alter_14 rfl (fun h => ?_) (fun h => ?_)
    · replace hw := hw.1 h
      refine V_aload_n hc d_X0_alter_26 rfl 0 rfl ?_
      refine V_get (v := .ref (a 2)) hc uin_X0 0 eX_0 rfl 2 (by decide) k_235 rfl d_X0_alter_27 ?_
      refine V_iload_n hc d_X0_alter_30 rfl 1 rfl ?_
      refine V_callVv (As := [.int x1]) (st := []) hc TS_good NS_nest (fun _ h => h) (c_X2_takeOut l K cA D a x1 u2) k_483 k_5 k_486 k_484 k_485 2 eX_2 rfl q_X2_takeOut (by decide) (Nat.zero_le _) (Nat.zero_le _) rfl (Nat.le_of_ble_eq_true rfl) d_X0_alter_31 hw (fun r3 u4 hw => ?_)
      try dsimp only at hw
      refine V_iconst (v := 1) hc d_X0_alter_34 (by decide) ?_
      exact V_zret hc NS_nest hr (by decide) hw d_X0_alter_35
    · replace hw := hw.2 h
      refine V_aload_n hc d_X0_alter_17 rfl 0 rfl ?_
      refine V_get (v := .ref (a 2)) hc uin_X0 0 eX_0 rfl 2 (by decide) k_235 rfl d_X0_alter_18 ?_
      refine V_iload_n hc d_X0_alter_21 rfl 1 rfl ?_
      refine V_callVi (As := [.int x1]) (st := []) hc TS_good NS_nest (fun _ h => h) (c_X2_repeat l K cA D a x1 u2) k_507 k_5 k_510 k_508 k_509 2 eX_2 rfl q_X2_repeat (by decide) (Nat.zero_le _) (Nat.zero_le _) rfl (Nat.le_of_ble_eq_true rfl) d_X0_alter_22 hw (fun r5 u6 hw => ?_)
      try dsimp only at hw
      exact V_zret hc NS_nest hr hw.1 hw.2 d_X0_alter_25
  · replace hw := hw.2 h
    refine V_iconst (v := 0) hc d_X0_alter_11 (by decide) ?_
    exact V_zret hc NS_nest hr (by decide) hw d_X0_alter_12
def w_X0_flight (K : Nat)  (z : St) (Q : Int32 → St → Prop) : Prop :=
  Q (g_I z 3) z
set_option maxHeartbeats 4000000 in
set_option maxRecDepth 100000 in
theorem c_X0_flight (l : Launch) (K : Nat) (cA : Nat → ClassId) (D : va_G) (a : Nat → Nat)  (z : St) : Ct l NS CL D (tyX cA) 23 a (WX K cA a) mkI y_X0_flight (.code y_X0_flight b_X0_flight 1 (some .int) :: TS) { frames := 0, cells := 0, slots := 0, locals := 0 } [.ref (a 0)] z (w_X0_flight K  z) := by
  refine Ct.of (by decide) (Nat.le_of_ble_eq_true rfl) adX ?_
  intro Q p e s m args below meth c hc hr hw
  unfold w_X0_flight at hw
  refine V_st _ [(0, .ref (a 0))] _ rfl rfl rfl ?_
  refine V_aload_n hc d_X0_flight_0 rfl 0 rfl ?_
  refine V_get (v := .ref (a 2)) hc uin_X0 0 eX_0 rfl 2 (by decide) k_235 rfl d_X0_flight_1 ?_
  refine V_getN (v := .int (g_I z 3)) hc uin_X2 2 eX_2 rfl 1 (by decide) k_103 rfl d_X0_flight_4 ?_
  exact V_iret hc NS_nest hr hw d_X0_flight_7
def w_X0_packet (K : Nat) (x1 : Int32) (x2 : Int32) (z : St) (Q : Int32 → St → Prop) : Prop :=
  w_X2_holds K x1 z (fun r1 u2 => ((r1 = 0 → Q (-2) u2) ∧ (¬ r1 = 0 → ((x2 < 0 → Q (-2) u2) ∧ (¬ x2 < 0 → ((4 ≤ x2 → Q (-2) u2) ∧ (¬ 4 ≤ x2 → w_X2_word K x1 x2 u2 (fun r3 u4 => Q r3 u4))))))))
set_option maxHeartbeats 4000000 in
set_option maxRecDepth 100000 in
theorem c_X0_packet (l : Launch) (K : Nat) (cA : Nat → ClassId) (D : va_G) (a : Nat → Nat) (x1 : Int32) (x2 : Int32) (z : St) : Ct l NS CL D (tyX cA) 23 a (WX K cA a) mkI y_X0_packet (.code y_X0_packet b_X0_packet 3 (some .int) :: TS) { frames := 1, cells := 0, slots := 0, locals := 22 } [.ref (a 0), .int x1, .int x2] z (w_X0_packet K x1 x2 z) := by
  refine Ct.of (by decide) (Nat.le_of_ble_eq_true rfl) adX ?_
  intro Q p e s m args below meth c hc hr hw
  unfold w_X0_packet at hw
  refine V_st _ [(0, .ref (a 0)), (1, .int x1), (2, .int x2)] _ rfl rfl rfl ?_
  refine V_aload_n hc d_X0_packet_0 rfl 0 rfl ?_
  refine V_get (v := .ref (a 2)) hc uin_X0 0 eX_0 rfl 2 (by decide) k_235 rfl d_X0_packet_1 ?_
  refine V_iload_n hc d_X0_packet_4 rfl 1 rfl ?_
  refine V_callVi (As := [.int x1]) (st := []) hc TS_good NS_nest (fun _ h => h) (c_X2_holds l K cA D a x1 z) k_475 k_5 k_478 k_476 k_477 2 eX_2 rfl q_X2_holds (by decide) (Nat.zero_le _) (Nat.zero_le _) rfl (Nat.le_of_ble_eq_true rfl) d_X0_packet_5 hw (fun r1 u2 hw => ?_)
  try dsimp only at hw
  refine V_if_eq (tgt := 32) hc d_X0_packet_8 rfl (fun h => ?_) (fun h => ?_)
  · replace hw := hw.1 h
    refine V_bipush (v := (-2)) hc d_X0_packet_32 (by decide) ?_
    exact V_iret hc NS_nest hr hw d_X0_packet_34
  · replace hw := hw.2 h
    refine V_iload_n hc d_X0_packet_11 rfl 2 rfl ?_
    refine V_if_lt (tgt := 32) hc d_X0_packet_12 rfl (fun h => ?_) (fun h => ?_)
    · replace hw := hw.1 h
      refine V_bipush (v := (-2)) hc d_X0_packet_32 (by decide) ?_
      exact V_iret hc NS_nest hr hw d_X0_packet_34
    · replace hw := hw.2 h
      refine V_iload_n hc d_X0_packet_15 rfl 2 rfl ?_
      refine V_iconst (v := 4) hc d_X0_packet_16 (by decide) ?_
      refine V_icmp_ge (tgt := 32) hc d_X0_packet_17 rfl (fun h => ?_) (fun h => ?_)
      · replace hw := hw.1 h
        refine V_bipush (v := (-2)) hc d_X0_packet_32 (by decide) ?_
        exact V_iret hc NS_nest hr hw d_X0_packet_34
      · replace hw := hw.2 h
        refine V_aload_n hc d_X0_packet_20 rfl 0 rfl ?_
        refine V_get (v := .ref (a 2)) hc uin_X0 0 eX_0 rfl 2 (by decide) k_235 rfl d_X0_packet_21 ?_
        refine V_iload_n hc d_X0_packet_24 rfl 1 rfl ?_
        refine V_iload_n hc d_X0_packet_25 rfl 2 rfl ?_
        refine V_callVi (As := [.int x1, .int x2]) (st := []) hc TS_good NS_nest (fun _ h => h) (c_X2_word l K cA D a x1 x2 u2) k_479 k_5 k_482 k_480 k_481 2 eX_2 rfl q_X2_word (by decide) (Nat.zero_le _) (Nat.zero_le _) rfl (Nat.le_of_ble_eq_true rfl) d_X0_packet_26 hw (fun r3 u4 hw => ?_)
        try dsimp only at hw
        refine V_goto (tgt := 34) hc d_X0_packet_29 rfl ?_
        exact V_iret hc NS_nest hr hw d_X0_packet_34
def w_X0_amountOf (K : Nat) (x1 : Int64) (z : St) (Q : Int32 → St → Prop) : Prop :=
  Q ((x1 : Int64).toInt32) z
set_option maxHeartbeats 4000000 in
set_option maxRecDepth 100000 in
theorem c_X0_amountOf (l : Launch) (K : Nat) (cA : Nat → ClassId) (D : va_G) (a : Nat → Nat) (x1 : Int64) (z : St) : Ct l NS CL D (tyX cA) 0 a (fun _ => []) mkI y_X0_amountOf (.code y_X0_amountOf b_X0_amountOf 2 (some .int) :: TS) { frames := 0, cells := 0, slots := 0, locals := 0 } [.long x1] z (w_X0_amountOf K x1 z) := by
  refine Ct.of (by decide) (Nat.le_of_ble_eq_true rfl) ad0 ?_
  intro Q p e s m args below meth c hc hr hw
  unfold w_X0_amountOf at hw
  refine V_st _ [(0, .long x1)] _ rfl rfl rfl ?_
  refine V_lload_n hc d_X0_amountOf_0 rfl 0 rfl ?_
  refine V_l2i hc d_X0_amountOf_1 rfl ?_
  exact V_iret hc NS_nest hr hw d_X0_amountOf_2
def w_X4_storeRow (K : Nat) (x1 : Int32) (x2 : Int64) (z : St) (Q : Unit → St → Prop) : Prop :=
  (((lg_cmp x2 (-1)) = 0 → (vp_in x1 K ∧ Q () (s_L z 3 (x1 : Int32).toNatClampNeg (-1)))) ∧ (¬ (lg_cmp x2 (-1)) = 0 → w_X0_amountOf K x2 z (fun r1 u2 => ((r1 < g_I z 15 → (vp_in x1 K ∧ Q () (s_L z 3 (x1 : Int32).toNatClampNeg (-1)))) ∧ (¬ r1 < g_I z 15 → (vp_in x1 K ∧ Q () (s_L z 3 (x1 : Int32).toNatClampNeg x2)))))))
set_option maxHeartbeats 4000000 in
set_option maxRecDepth 100000 in
theorem c_X4_storeRow (l : Launch) (K : Nat) (cA : Nat → ClassId) (D : va_G) (a : Nat → Nat) (x1 : Int32) (x2 : Int64) (z : St) : Ct l NS CL D (tyX cA) 23 a (WX K cA a) mkV y_X4_storeRow (.code y_X4_storeRow b_X4_storeRow 4 none :: TS) { frames := 1, cells := 0, slots := 0, locals := 21 } [.ref (a 4), .int x1, .long x2] z (w_X4_storeRow K x1 x2 z) := by
  refine Ct.of (by decide) (Nat.le_of_ble_eq_true rfl) adX ?_
  intro Q p e s m args below meth c hc hr hw
  unfold w_X4_storeRow at hw
  refine V_st _ [(0, .ref (a 4)), (1, .int x1), (2, .long x2)] _ rfl rfl rfl ?_
  refine V_aload_n hc d_X4_storeRow_0 rfl 0 rfl ?_
  refine V_get (v := .ref (a 16)) hc uin_X4 4 eX_4 rfl 3 (by decide) k_211 rfl d_X4_storeRow_1 ?_
  refine V_iload_n hc d_X4_storeRow_4 rfl 1 rfl ?_
  refine V_lload_n hc d_X4_storeRow_5 rfl 2 rfl ?_
  refine V_ldc2 (v := (-1)) hc k_204 d_X4_storeRow_6 ?_
  refine V_lcmp hc d_X4_storeRow_9 rfl ?_
  refine V_if_eq (tgt := 28) hc d_X4_storeRow_10 rfl (fun h => ?_) (fun h => ?_)
  · replace hw := hw.1 h
    refine V_ldc2 (v := (-1)) hc k_204 d_X4_storeRow_28 ?_
    obtain ⟨hi, hw⟩ := hw
    refine V_last hc 16 1 eX_16 rfl hi sX_16 d_X4_storeRow_31 ?_
    exact V_vret hc NS_nest hr hw d_X4_storeRow_32
  · replace hw := hw.2 h
    refine V_lload_n hc d_X4_storeRow_13 rfl 2 rfl ?_
    refine V_callSNi (b := 0) (As := [.long x2]) (st := [.int x1, .ref (a 16)]) hc TS_good NS_nest (fun _ h => Or.inr h) (c_X0_amountOf l K cA D a x2 z) k_537 k_1 k_539 k_538 q_X0_amountOf (by decide) (Nat.zero_le _) (Nat.zero_le _) rfl (Nat.le_of_ble_eq_true rfl) d_X4_storeRow_14 hw (fun r1 u2 hw => ?_)
    try dsimp only at hw
    refine V_aload_n hc d_X4_storeRow_17 rfl 0 rfl ?_
    refine V_get (v := .int (g_I z 15)) hc uin_X4 4 eX_4 rfl 2 (by decide) k_210 rfl d_X4_storeRow_18 ?_
    refine V_icmp_lt (tgt := 28) hc d_X4_storeRow_21 rfl (fun h => ?_) (fun h => ?_)
    · replace hw := hw.1 h
      refine V_ldc2 (v := (-1)) hc k_204 d_X4_storeRow_28 ?_
      obtain ⟨hi, hw⟩ := hw
      refine V_last hc 16 1 eX_16 rfl hi sX_16 d_X4_storeRow_31 ?_
      exact V_vret hc NS_nest hr hw d_X4_storeRow_32
    · replace hw := hw.2 h
      refine V_lload_n hc d_X4_storeRow_24 rfl 2 rfl ?_
      refine V_goto (tgt := 31) hc d_X4_storeRow_25 rfl ?_
      obtain ⟨hi, hw⟩ := hw
      refine V_last hc 16 1 eX_16 rfl hi sX_16 d_X4_storeRow_31 ?_
      exact V_vret hc NS_nest hr hw d_X4_storeRow_32
def w_X4_storeChunk_18 (K : Nat) (Q : Unit → St → Prop) : Nat → Int32 → Int32 → St → Prop
  | 0, _, _, _ => False
  | n + 1, v3, v4, z => ((v3 ≤ v4 → Q () (s_I z 18 (if (Int32.ofNat K) < (g_I z 18 + g_I z 14) then (Int32.ofNat K) else (g_I z 18 + g_I z 14)))) ∧ (¬ v3 ≤ v4 → (vp_in v4 K ∧ (((lg_cmp (g_L z 2 (v4 : Int32).toNatClampNeg) (-1)) = 0 → w_X4_storeChunk_18 K Q n v3 (v4 + 1) z) ∧ (¬ (lg_cmp (g_L z 2 (v4 : Int32).toNatClampNeg) (-1)) = 0 → (vp_in v4 K ∧ w_X4_storeRow K v4 (g_L z 2 (v4 : Int32).toNatClampNeg) z (fun r1 u2 => w_X4_storeChunk_18 K Q n v3 (v4 + 1) u2)))))))
def w_X4_storeChunk (K : Nat) (x2 : Int32) (z : St) (Q : Unit → St → Prop) : Prop :=
  (∃ n9, w_X4_storeChunk_18 K Q n9 (if (Int32.ofNat K) < (x2 + g_I z 14) then (Int32.ofNat K) else (x2 + g_I z 14)) x2 z)
set_option maxHeartbeats 4000000 in
set_option maxRecDepth 100000 in
theorem l_X4_storeChunk_18 (l : Launch) (K : Nat) (cA : Nat → ClassId) (D : va_G) (a : Nat → Nat) (Q : Unit → St → Prop) (p : Program) (e : Env) (s : State) (m : MethodId) (args : Array Value) (below : List Frame) (meth : Method) (c : Code) (hc : Cx TS NS CL D (tyX cA) p s m args meth c b_X4_storeChunk 5 y_X4_storeChunk.cls) (hr : meth.sig.returnType = none) : ∀ (n : Nat) (v3 : Int32) (v4 : Int32) (z : St), w_X4_storeChunk_18 K Q n v3 v4 z → V CL p l e { frames := 2, cells := 0, slots := 0, locals := 44 } s m args below meth c 5 D (AX 23 a s.heap.size) 0 0 (MQ below (Qg NS CL D (tyX cA) (WX K cA a) (AX 23 a s.heap.size) mkV Q) args s 0 0 (AX 23 a s.heap.size)) (WX K cA a z) 18 [(0, .ref (a 4)), (1, .ref (a 12)), (3, .int v3), (4, .int v4)] [] := by
  intro n
  induction n with
  | zero =>
    intro v3 v4 z hw
    exact hw.elim
  | succ n ih =>
    intro v3 v4 z hw
    unfold w_X4_storeChunk_18 at hw
    refine V_iload hc d_X4_storeChunk_18 3 rfl ?_
    refine V_iload_n hc d_X4_storeChunk_20 rfl 2 rfl ?_
    refine V_icmp_ge (tgt := 51) hc d_X4_storeChunk_21 rfl (fun h => ?_) (fun h => ?_)
    · replace hw := hw.1 h
      refine V_aload_n hc d_X4_storeChunk_51 rfl 0 rfl ?_
      refine V_aload_n hc d_X4_storeChunk_52 rfl 0 rfl ?_
      refine V_get (v := .int (g_I z 18)) hc uin_X4 4 eX_4 rfl 6 (by decide) k_216 rfl d_X4_storeChunk_53 ?_
      refine V_aload_n hc d_X4_storeChunk_56 rfl 0 rfl ?_
      refine V_get (v := .int (g_I z 14)) hc uin_X4 4 eX_4 rfl 1 (by decide) k_209 rfl d_X4_storeChunk_57 ?_
      refine V_iadd hc d_X4_storeChunk_60 rfl ?_
      refine V_aload_n hc d_X4_storeChunk_61 rfl 0 rfl ?_
      refine V_get (v := .ref (a 16)) hc uin_X4 4 eX_4 rfl 3 (by decide) k_211 rfl d_X4_storeChunk_62 ?_
      refine V_alen (v := (Int32.ofNat K)) hc 16 1 eX_16 rfl rfl d_X4_storeChunk_65 ?_
      refine V_mmin hc k_532 k_24 k_2 k_25 (by decide) (Nat.le_of_ble_eq_true rfl) (Nat.zero_le _) (Nat.zero_le _) rfl d_X4_storeChunk_66 ?_
      refine V_put (ty := .int) hc uin_X4 4 eX_4 rfl 6 (by decide) t_X4 t_X4_ok n_X4 k_216 rfl (by decide +kernel) rfl rfl (Nat.le_of_ble_eq_true rfl) iX_18 d_X4_storeChunk_69 ?_
      exact V_vret hc NS_nest hr hw d_X4_storeChunk_72
    · replace hw := hw.2 h
      refine V_aload_n hc d_X4_storeChunk_24 rfl 1 rfl ?_
      refine V_iload hc d_X4_storeChunk_25 3 rfl ?_
      obtain ⟨hi, hw⟩ := hw
      refine V_lald (x := g_L z 2 (v4 : Int32).toNatClampNeg) hc 12 1 eX_12 rfl hi rfl d_X4_storeChunk_27 ?_
      refine V_ldc2 (v := (-1)) hc k_204 d_X4_storeChunk_28 ?_
      refine V_lcmp hc d_X4_storeChunk_31 rfl ?_
      refine V_if_eq (tgt := 45) hc d_X4_storeChunk_32 rfl (fun h => ?_) (fun h => ?_)
      · replace hw := hw.1 h
        refine V_iinc (v := (v4 + 1)) hc [(4, .int (v4 + 1)), (0, .ref (a 4)), (1, .ref (a 12)), (3, .int v3)] d_X4_storeChunk_45 3 rfl (by rfl) (by decide) rfl ?_
        refine V_goto (tgt := 18) hc d_X4_storeChunk_48 rfl ?_
        refine V_sub [1, 2, 3, 0] [(0, .ref (a 4)), (1, .ref (a 12)), (3, .int v3), (4, .int (v4 + 1))] rfl ?_
        exact ih v3 (v4 + 1) z hw
      · replace hw := hw.2 h
        refine V_aload_n hc d_X4_storeChunk_35 rfl 0 rfl ?_
        refine V_iload hc d_X4_storeChunk_36 3 rfl ?_
        refine V_aload_n hc d_X4_storeChunk_38 rfl 1 rfl ?_
        refine V_iload hc d_X4_storeChunk_39 3 rfl ?_
        obtain ⟨hi, hw⟩ := hw
        refine V_lald (x := g_L z 2 (v4 : Int32).toNatClampNeg) hc 12 1 eX_12 rfl hi rfl d_X4_storeChunk_41 ?_
        refine V_callVv (As := [.int v4, .long (g_L z 2 (v4 : Int32).toNatClampNeg)]) (st := []) hc TS_good NS_nest (fun _ h => h) (c_X4_storeRow l K cA D a v4 (g_L z 2 (v4 : Int32).toNatClampNeg) z) k_533 k_8 k_536 k_535 kp_X4_storeRow 4 eX_4 rfl q_X4_storeRow (by decide) (Nat.zero_le _) (Nat.zero_le _) rfl (Nat.le_of_ble_eq_true rfl) d_X4_storeChunk_42 hw (fun r1 u2 hw => ?_)
        try dsimp only at hw
        refine V_iinc (v := (v4 + 1)) hc [(4, .int (v4 + 1)), (0, .ref (a 4)), (1, .ref (a 12)), (3, .int v3)] d_X4_storeChunk_45 3 rfl (by rfl) (by decide) rfl ?_
        refine V_goto (tgt := 18) hc d_X4_storeChunk_48 rfl ?_
        refine V_sub [1, 2, 3, 0] [(0, .ref (a 4)), (1, .ref (a 12)), (3, .int v3), (4, .int (v4 + 1))] rfl ?_
        exact ih v3 (v4 + 1) u2 hw
set_option maxHeartbeats 4000000 in
set_option maxRecDepth 100000 in
theorem c_X4_storeChunk (l : Launch) (K : Nat) (cA : Nat → ClassId) (D : va_G) (a : Nat → Nat) (x2 : Int32) (z : St) : Ct l NS CL D (tyX cA) 23 a (WX K cA a) mkV y_X4_storeChunk (.code y_X4_storeChunk b_X4_storeChunk 5 none :: TS) { frames := 2, cells := 0, slots := 0, locals := 44 } [.ref (a 4), .ref (a 12), .int x2] z (w_X4_storeChunk K x2 z) := by
  refine Ct.of (by decide) (Nat.le_of_ble_eq_true rfl) adX ?_
  intro Q p e s m args below meth c hc hr hw
  unfold w_X4_storeChunk at hw
  refine V_st _ [(0, .ref (a 4)), (1, .ref (a 12)), (2, .int x2)] _ rfl rfl rfl ?_
  refine V_iload_n hc d_X4_storeChunk_0 rfl 2 rfl ?_
  refine V_aload_n hc d_X4_storeChunk_1 rfl 0 rfl ?_
  refine V_get (v := .int (g_I z 14)) hc uin_X4 4 eX_4 rfl 1 (by decide) k_209 rfl d_X4_storeChunk_2 ?_
  refine V_iadd hc d_X4_storeChunk_5 rfl ?_
  refine V_aload_n hc d_X4_storeChunk_6 rfl 0 rfl ?_
  refine V_get (v := .ref (a 16)) hc uin_X4 4 eX_4 rfl 3 (by decide) k_211 rfl d_X4_storeChunk_7 ?_
  refine V_alen (v := (Int32.ofNat K)) hc 16 1 eX_16 rfl rfl d_X4_storeChunk_10 ?_
  refine V_mmin hc k_532 k_24 k_2 k_25 (by decide) (Nat.le_of_ble_eq_true rfl) (Nat.zero_le _) (Nat.zero_le _) rfl d_X4_storeChunk_11 ?_
  refine V_istore_n hc [(3, .int (if (Int32.ofNat K) < (x2 + g_I z 14) then (Int32.ofNat K) else (x2 + g_I z 14))), (0, .ref (a 4)), (1, .ref (a 12)), (2, .int x2)] d_X4_storeChunk_14 rfl (by decide) rfl ?_
  refine V_iload_n hc d_X4_storeChunk_15 rfl 3 rfl ?_
  refine V_istore hc [(4, .int x2), (3, .int (if (Int32.ofNat K) < (x2 + g_I z 14) then (Int32.ofNat K) else (x2 + g_I z 14))), (0, .ref (a 4)), (1, .ref (a 12)), (2, .int x2)] d_X4_storeChunk_16 (by decide) rfl ?_
  obtain ⟨n9, hw⟩ := hw
  refine V_sub [2, 3, 1, 0] [(0, .ref (a 4)), (1, .ref (a 12)), (3, .int (if (Int32.ofNat K) < (x2 + g_I z 14) then (Int32.ofNat K) else (x2 + g_I z 14))), (4, .int x2)] rfl ?_
  exact l_X4_storeChunk_18 l K cA D a Q p e s m args below meth c hc hr n9 (if (Int32.ofNat K) < (x2 + g_I z 14) then (Int32.ofNat K) else (x2 + g_I z 14)) x2 z hw
def w_X4_storeChanges_2 (K : Nat) (Q : Unit → St → Prop) : Nat → Int32 → Int32 → St → Prop
  | 0, _, _, _ => False
  | n + 1, v1, v2, z => ((g_I z 16 ≤ v2 → Q () z) ∧ (¬ g_I z 16 ≤ v2 → w_X5_isChangeOf K v2 v1 z (fun r1 u2 => ((r1 = 0 → w_X4_storeChanges_2 K Q n v1 (v2 + 1) u2) ∧ (¬ r1 = 0 → (vp_in v2 160 ∧ (vp_in v2 160 ∧ w_X4_storeRow K (g_A u2 8 (v2 : Int32).toNatClampNeg) (g_L u2 4 (v2 : Int32).toNatClampNeg) u2 (fun r3 u4 => w_X4_storeChanges_2 K Q n v1 (v2 + 1) u4))))))))
def w_X4_storeChanges (K : Nat) (x1 : Int32) (z : St) (Q : Unit → St → Prop) : Prop :=
  (∃ n9, w_X4_storeChanges_2 K Q n9 x1 0 z)
set_option maxHeartbeats 4000000 in
set_option maxRecDepth 100000 in
theorem l_X4_storeChanges_2 (l : Launch) (K : Nat) (cA : Nat → ClassId) (D : va_G) (a : Nat → Nat) (Q : Unit → St → Prop) (p : Program) (e : Env) (s : State) (m : MethodId) (args : Array Value) (below : List Frame) (meth : Method) (c : Code) (hc : Cx TS NS CL D (tyX cA) p s m args meth c b_X4_storeChanges 3 y_X4_storeChanges.cls) (hr : meth.sig.returnType = none) : ∀ (n : Nat) (v1 : Int32) (v2 : Int32) (z : St), w_X4_storeChanges_2 K Q n v1 v2 z → V CL p l e { frames := 2, cells := 0, slots := 0, locals := 44 } s m args below meth c 3 D (AX 23 a s.heap.size) 0 0 (MQ below (Qg NS CL D (tyX cA) (WX K cA a) (AX 23 a s.heap.size) mkV Q) args s 0 0 (AX 23 a s.heap.size)) (WX K cA a z) 2 [(0, .ref (a 4)), (1, .int v1), (2, .int v2)] [] := by
  intro n
  induction n with
  | zero =>
    intro v1 v2 z hw
    exact hw.elim
  | succ n ih =>
    intro v1 v2 z hw
    unfold w_X4_storeChanges_2 at hw
    refine V_iload_n hc d_X4_storeChanges_2 rfl 2 rfl ?_
    refine V_aload_n hc d_X4_storeChanges_3 rfl 0 rfl ?_
    refine V_get (v := .int (g_I z 16)) hc uin_X4 4 eX_4 rfl 4 (by decide) k_213 rfl d_X4_storeChanges_4 ?_
    refine V_icmp_ge (tgt := 50) hc d_X4_storeChanges_7 rfl (fun h => ?_) (fun h => ?_)
    · replace hw := hw.1 h
      exact V_vret hc NS_nest hr hw d_X4_storeChanges_50
    · replace hw := hw.2 h
      refine V_aload_n hc d_X4_storeChanges_10 rfl 0 rfl ?_
      refine V_get (v := .ref (a 5)) hc uin_X4 4 eX_4 rfl 0 (by decide) k_208 rfl d_X4_storeChanges_11 ?_
      refine V_iload_n hc d_X4_storeChanges_14 rfl 2 rfl ?_
      refine V_iload_n hc d_X4_storeChanges_15 rfl 1 rfl ?_
      refine V_callVi (As := [.int v2, .int v1]) (st := []) hc TS_good NS_nest (fun _ h => h) (c_X5_isChangeOf l K cA D a v2 v1 z) k_544 k_3 k_449 k_447 k_448 5 eX_5 rfl q_X5_isChangeOf (by decide) (Nat.zero_le _) (Nat.zero_le _) rfl (Nat.le_of_ble_eq_true rfl) d_X4_storeChanges_16 hw (fun r1 u2 hw => ?_)
      try dsimp only at hw
      refine V_if_eq (tgt := 44) hc d_X4_storeChanges_19 rfl (fun h => ?_) (fun h => ?_)
      · replace hw := hw.1 h
        refine V_iinc (v := (v2 + 1)) hc [(2, .int (v2 + 1)), (0, .ref (a 4)), (1, .int v1)] d_X4_storeChanges_44 2 rfl (by rfl) (by decide) rfl ?_
        refine V_goto (tgt := 2) hc d_X4_storeChanges_47 rfl ?_
        refine V_sub [1, 2, 0] [(0, .ref (a 4)), (1, .int v1), (2, .int (v2 + 1))] rfl ?_
        exact ih v1 (v2 + 1) u2 hw
      · replace hw := hw.2 h
        refine V_aload_n hc d_X4_storeChanges_22 rfl 0 rfl ?_
        refine V_aload_n hc d_X4_storeChanges_23 rfl 0 rfl ?_
        refine V_get (v := .ref (a 5)) hc uin_X4 4 eX_4 rfl 0 (by decide) k_208 rfl d_X4_storeChanges_24 ?_
        refine V_getN (v := .ref (a 19)) hc uin_X5 5 eX_5 rfl 2 (by decide) k_42 rfl d_X4_storeChanges_27 ?_
        refine V_iload_n hc d_X4_storeChanges_30 rfl 2 rfl ?_
        obtain ⟨hi, hw⟩ := hw
        refine V_iald (x := g_A u2 8 (v2 : Int32).toNatClampNeg) hc 19 0 eX_19 rfl hi rfl d_X4_storeChanges_31 ?_
        refine V_aload_n hc d_X4_storeChanges_32 rfl 0 rfl ?_
        refine V_get (v := .ref (a 5)) hc uin_X4 4 eX_4 rfl 0 (by decide) k_208 rfl d_X4_storeChanges_33 ?_
        refine V_getN (v := .ref (a 20)) hc uin_X5 5 eX_5 rfl 3 (by decide) k_45 rfl d_X4_storeChanges_36 ?_
        refine V_iload_n hc d_X4_storeChanges_39 rfl 2 rfl ?_
        obtain ⟨hi, hw⟩ := hw
        refine V_lald (x := g_L u2 4 (v2 : Int32).toNatClampNeg) hc 20 1 eX_20 rfl hi rfl d_X4_storeChanges_40 ?_
        refine V_callVv (As := [.int (g_A u2 8 (v2 : Int32).toNatClampNeg), .long (g_L u2 4 (v2 : Int32).toNatClampNeg)]) (st := []) hc TS_good NS_nest (fun _ h => h) (c_X4_storeRow l K cA D a (g_A u2 8 (v2 : Int32).toNatClampNeg) (g_L u2 4 (v2 : Int32).toNatClampNeg) u2) k_533 k_8 k_536 k_535 kp_X4_storeRow 4 eX_4 rfl q_X4_storeRow (by decide) (Nat.zero_le _) (Nat.zero_le _) rfl (Nat.le_of_ble_eq_true rfl) d_X4_storeChanges_41 hw (fun r3 u4 hw => ?_)
        try dsimp only at hw
        refine V_iinc (v := (v2 + 1)) hc [(2, .int (v2 + 1)), (0, .ref (a 4)), (1, .int v1)] d_X4_storeChanges_44 2 rfl (by rfl) (by decide) rfl ?_
        refine V_goto (tgt := 2) hc d_X4_storeChanges_47 rfl ?_
        refine V_sub [1, 2, 0] [(0, .ref (a 4)), (1, .int v1), (2, .int (v2 + 1))] rfl ?_
        exact ih v1 (v2 + 1) u4 hw
set_option maxHeartbeats 4000000 in
set_option maxRecDepth 100000 in
theorem c_X4_storeChanges (l : Launch) (K : Nat) (cA : Nat → ClassId) (D : va_G) (a : Nat → Nat) (x1 : Int32) (z : St) : Ct l NS CL D (tyX cA) 23 a (WX K cA a) mkV y_X4_storeChanges (.code y_X4_storeChanges b_X4_storeChanges 3 none :: TS) { frames := 2, cells := 0, slots := 0, locals := 44 } [.ref (a 4), .int x1] z (w_X4_storeChanges K x1 z) := by
  refine Ct.of (by decide) (Nat.le_of_ble_eq_true rfl) adX ?_
  intro Q p e s m args below meth c hc hr hw
  unfold w_X4_storeChanges at hw
  refine V_st _ [(0, .ref (a 4)), (1, .int x1)] _ rfl rfl rfl ?_
  refine V_iconst (v := 0) hc d_X4_storeChanges_0 (by decide) ?_
  refine V_istore_n hc [(2, .int 0), (0, .ref (a 4)), (1, .int x1)] d_X4_storeChanges_1 rfl (by decide) rfl ?_
  obtain ⟨n9, hw⟩ := hw
  refine V_sub [1, 2, 0] [(0, .ref (a 4)), (1, .int x1), (2, .int 0)] rfl ?_
  exact l_X4_storeChanges_2 l K cA D a Q p e s m args below meth c hc hr n9 x1 0 z hw
