def w_X4_forgetStaged (K : Nat)  (z : St) (Q : Unit → St → Prop) : Prop :=
  Q () (s_I z 16 (-1))
set_option maxHeartbeats 4000000 in
set_option maxRecDepth 100000 in
theorem c_X4_forgetStaged (l : Launch) (K : Nat) (cA : Nat → ClassId) (D : va_G) (a : Nat → Nat)  (z : St) : Ct l NS CL D (tyX cA) 23 a (WX K cA a) mkV y_X4_forgetStaged (.code y_X4_forgetStaged b_X4_forgetStaged 1 none :: TS) { frames := 0, cells := 0, slots := 0, locals := 0 } [.ref (a 4)] z (w_X4_forgetStaged K  z) := by
  refine Ct.of (by decide) (Nat.le_of_ble_eq_true rfl) adX ?_
  intro Q p e s m args below meth c hc hr hw
  unfold w_X4_forgetStaged at hw
  refine V_st _ [(0, .ref (a 4))] _ rfl rfl rfl ?_
  refine V_aload_n hc d_X4_forgetStaged_0 rfl 0 rfl ?_
  refine V_iconst (v := (-1)) hc d_X4_forgetStaged_1 (by decide) ?_
  refine V_put (ty := .int) hc uin_X4 4 eX_4 rfl 4 (by decide) t_X4 t_X4_ok n_X4 k_213 rfl (by decide +kernel) rfl rfl (Nat.le_of_ble_eq_true rfl) iX_16 d_X4_forgetStaged_2 ?_
  exact V_vret hc NS_nest hr hw d_X4_forgetStaged_5
def w_X2_startEpoch (K : Nat)  (z : St) (Q : Unit → St → Prop) : Prop :=
  Q () (s_I z 4 (g_I z 4 + 1))
set_option maxHeartbeats 4000000 in
set_option maxRecDepth 100000 in
theorem c_X2_startEpoch (l : Launch) (K : Nat) (cA : Nat → ClassId) (D : va_G) (a : Nat → Nat)  (z : St) : Ct l NS CL D (tyX cA) 23 a (WX K cA a) mkV y_X2_startEpoch (.code y_X2_startEpoch b_X2_startEpoch 1 none :: TS) { frames := 0, cells := 0, slots := 0, locals := 0 } [.ref (a 2)] z (w_X2_startEpoch K  z) := by
  refine Ct.of (by decide) (Nat.le_of_ble_eq_true rfl) adX ?_
  intro Q p e s m args below meth c hc hr hw
  unfold w_X2_startEpoch at hw
  refine V_st _ [(0, .ref (a 2))] _ rfl rfl rfl ?_
  refine V_aload_n hc d_X2_startEpoch_0 rfl 0 rfl ?_
  refine V_dup hc d_X2_startEpoch_1 rfl ?_
  refine V_get (v := .int (g_I z 4)) hc uin_X2 2 eX_2 rfl 2 (by decide) k_104 rfl d_X2_startEpoch_2 ?_
  refine V_iconst (v := 1) hc d_X2_startEpoch_5 (by decide) ?_
  refine V_iadd hc d_X2_startEpoch_6 rfl ?_
  refine V_put (ty := .int) hc uin_X2 2 eX_2 rfl 2 (by decide) t_X2 t_X2_ok n_X2 k_104 rfl (by decide +kernel) rfl rfl (Nat.le_of_ble_eq_true rfl) iX_4 d_X2_startEpoch_7 ?_
  exact V_vret hc NS_nest hr hw d_X2_startEpoch_10
def w_X6_stop (K : Nat)  (z : St) (Q : Unit → St → Prop) : Prop :=
  Q () (s_I z 20 0)
set_option maxHeartbeats 4000000 in
set_option maxRecDepth 100000 in
theorem c_X6_stop (l : Launch) (K : Nat) (cA : Nat → ClassId) (D : va_G) (a : Nat → Nat)  (z : St) : Ct l NS CL D (tyX cA) 23 a (WX K cA a) mkV y_X6_stop (.code y_X6_stop b_X6_stop 1 none :: TS) { frames := 0, cells := 0, slots := 0, locals := 0 } [.ref (a 6)] z (w_X6_stop K  z) := by
  refine Ct.of (by decide) (Nat.le_of_ble_eq_true rfl) adX ?_
  intro Q p e s m args below meth c hc hr hw
  unfold w_X6_stop at hw
  refine V_st _ [(0, .ref (a 6))] _ rfl rfl rfl ?_
  refine V_aload_n hc d_X6_stop_0 rfl 0 rfl ?_
  refine V_iconst (v := 0) hc d_X6_stop_1 (by decide) ?_
  refine V_put (ty := .int) hc uin_X6 6 eX_6 rfl 2 (by decide) t_X6 t_X6_ok n_X6 k_128 rfl (by decide +kernel) rfl rfl (Nat.le_of_ble_eq_true rfl) iX_20 d_X6_stop_2 ?_
  exact V_vret hc NS_nest hr hw d_X6_stop_5
def w_X3_restart (K : Nat) (x1 : Int32) (x2 : Int32) (z : St) (Q : Unit → St → Prop) : Prop :=
  w_X6_stop K  (s_I z 8 0) (fun r1 u2 => Q () (s_I (s_I (s_I (s_I u2 10 x1) 11 x1) 12 0) 13 x2))
set_option maxHeartbeats 4000000 in
set_option maxRecDepth 100000 in
theorem c_X3_restart (l : Launch) (K : Nat) (cA : Nat → ClassId) (D : va_G) (a : Nat → Nat) (x1 : Int32) (x2 : Int32) (z : St) : Ct l NS CL D (tyX cA) 23 a (WX K cA a) mkV y_X3_restart (.code y_X3_restart b_X3_restart 3 none :: TS) { frames := 1, cells := 0, slots := 0, locals := 20 } [.ref (a 3), .int x1, .int x2] z (w_X3_restart K x1 x2 z) := by
  refine Ct.of (by decide) (Nat.le_of_ble_eq_true rfl) adX ?_
  intro Q p e s m args below meth c hc hr hw
  unfold w_X3_restart at hw
  refine V_st _ [(0, .ref (a 3)), (1, .int x1), (2, .int x2)] _ rfl rfl rfl ?_
  refine V_aload_n hc d_X3_restart_0 rfl 0 rfl ?_
  refine V_iconst (v := 0) hc d_X3_restart_1 (by decide) ?_
  refine V_put (ty := .int) hc uin_X3 3 eX_3 rfl 11 (by decide) t_X3 t_X3_ok n_X3 k_156 rfl (by decide +kernel) rfl rfl (Nat.le_of_ble_eq_true rfl) iX_8 d_X3_restart_2 ?_
  refine V_aload_n hc d_X3_restart_5 rfl 0 rfl ?_
  refine V_get (v := .ref (a 6)) hc uin_X3 3 eX_3 rfl 6 (by decide) k_150 rfl d_X3_restart_6 ?_
  refine V_callVv (As := []) (st := []) hc TS_good NS_nest (fun _ h => h) (c_X6_stop l K cA D a  (s_I z 8 0)) k_361 k_7 k_364 k_362 k_363 6 eX_6 rfl q_X6_stop (by decide) (Nat.zero_le _) (Nat.zero_le _) rfl (Nat.le_of_ble_eq_true rfl) d_X3_restart_9 hw (fun r1 u2 hw => ?_)
  try dsimp only at hw
  refine V_aload_n hc d_X3_restart_12 rfl 0 rfl ?_
  refine V_iload_n hc d_X3_restart_13 rfl 1 rfl ?_
  refine V_put (ty := .int) hc uin_X3 3 eX_3 rfl 13 (by decide) t_X3 t_X3_ok n_X3 k_159 rfl (by decide +kernel) rfl rfl (Nat.le_of_ble_eq_true rfl) iX_10 d_X3_restart_14 ?_
  refine V_aload_n hc d_X3_restart_17 rfl 0 rfl ?_
  refine V_iload_n hc d_X3_restart_18 rfl 1 rfl ?_
  refine V_put (ty := .int) hc uin_X3 3 eX_3 rfl 14 (by decide) t_X3 t_X3_ok n_X3 k_160 rfl (by decide +kernel) rfl rfl (Nat.le_of_ble_eq_true rfl) iX_11 d_X3_restart_19 ?_
  refine V_aload_n hc d_X3_restart_22 rfl 0 rfl ?_
  refine V_iconst (v := 0) hc d_X3_restart_23 (by decide) ?_
  refine V_put (ty := .int) hc uin_X3 3 eX_3 rfl 15 (by decide) t_X3 t_X3_ok n_X3 k_161 rfl (by decide +kernel) rfl rfl (Nat.le_of_ble_eq_true rfl) iX_12 d_X3_restart_24 ?_
  refine V_aload_n hc d_X3_restart_27 rfl 0 rfl ?_
  refine V_iload_n hc d_X3_restart_28 rfl 2 rfl ?_
  refine V_put (ty := .int) hc uin_X3 3 eX_3 rfl 16 (by decide) t_X3 t_X3_ok n_X3 k_162 rfl (by decide +kernel) rfl rfl (Nat.le_of_ble_eq_true rfl) iX_13 d_X3_restart_29 ?_
  exact V_vret hc NS_nest hr hw d_X3_restart_32
def w_X0_crash (K : Nat) (x1 : Int32) (z : St) (Q : Int32 → St → Prop) : Prop :=
  ((x1 = 0 → w_X1_abortAll K  z (fun r1 u2 => Q 1 u2)) ∧ (¬ x1 = 0 → ((x1 = 1 → w_X4_forgetStaged K  z (fun r3 u4 => w_X2_startEpoch K  u4 (fun r5 u6 => w_X3_restart K (g_I u6 17) (g_I u6 18) u6 (fun r7 u8 => Q 1 u8)))) ∧ (¬ x1 = 1 → ((x1 = 2 → w_X4_forgetStaged K  z (fun r9 u10 => Q 1 u10)) ∧ (¬ x1 = 2 → Q 0 z))))))
set_option maxHeartbeats 4000000 in
set_option maxRecDepth 100000 in
theorem c_X0_crash (l : Launch) (K : Nat) (cA : Nat → ClassId) (D : va_G) (a : Nat → Nat) (x1 : Int32) (z : St) : Ct l NS CL D (tyX cA) 23 a (WX K cA a) mkI y_X0_crash (.code y_X0_crash b_X0_crash 2 (some .boolean) :: TS) { frames := 3, cells := 0, slots := 0, locals := 69 } [.ref (a 0), .int x1] z (w_X0_crash K x1 z) := by
  refine Ct.of (by decide) (Nat.le_of_ble_eq_true rfl) adX ?_
  intro Q p e s m args below meth c hc hr hw
  unfold w_X0_crash at hw
  refine V_st _ [(0, .ref (a 0)), (1, .int x1)] _ rfl rfl rfl ?_
  refine V_iload_n hc d_X0_crash_0 rfl 1 rfl ?_
  by_cases h0 : x1 = 0
  · replace hw := hw.1 h0
    refine V_tableIn (tgt := 28) (off := 27) hc d_X0_crash_1 (by rw [h0]; decide) (by rw [h0]; decide) (by rw [h0]; decide) rfl ?_
    refine V_aload_n hc d_X0_crash_28 rfl 0 rfl ?_
    refine V_get (v := .ref (a 1)) hc uin_X0 0 eX_0 rfl 1 (by decide) k_234 rfl d_X0_crash_29 ?_
    refine V_callVv (As := []) (st := []) hc TS_good NS_nest (fun _ h => h) (c_X1_abortAll l K cA D a  z) k_344 k_4 k_347 k_345 k_346 1 eX_1 rfl q_X1_abortAll (by decide) (Nat.zero_le _) (Nat.zero_le _) rfl (Nat.le_of_ble_eq_true rfl) d_X0_crash_32 hw (fun r1 u2 hw => ?_)
    try dsimp only at hw
    refine V_iconst (v := 1) hc d_X0_crash_35 (by decide) ?_
    exact V_zret hc NS_nest hr (by decide) hw d_X0_crash_36
  · replace hw := hw.2 h0
    by_cases h1 : x1 = 1
    · replace hw := hw.1 h1
      refine V_tableIn (tgt := 37) (off := 36) hc d_X0_crash_1 (by rw [h1]; decide) (by rw [h1]; decide) (by rw [h1]; decide) rfl ?_
      refine V_aload_n hc d_X0_crash_37 rfl 0 rfl ?_
      refine V_get (v := .ref (a 4)) hc uin_X0 0 eX_0 rfl 4 (by decide) k_237 rfl d_X0_crash_38 ?_
      refine V_callVv (As := []) (st := []) hc TS_good NS_nest (fun _ h => h) (c_X4_forgetStaged l K cA D a  z) k_349 k_8 k_352 k_350 k_351 4 eX_4 rfl q_X4_forgetStaged (by decide) (Nat.zero_le _) (Nat.zero_le _) rfl (Nat.le_of_ble_eq_true rfl) d_X0_crash_41 hw (fun r3 u4 hw => ?_)
      try dsimp only at hw
      refine V_aload_n hc d_X0_crash_44 rfl 0 rfl ?_
      refine V_get (v := .ref (a 2)) hc uin_X0 0 eX_0 rfl 2 (by decide) k_235 rfl d_X0_crash_45 ?_
      refine V_callVv (As := []) (st := []) hc TS_good NS_nest (fun _ h => h) (c_X2_startEpoch l K cA D a  u4) k_353 k_5 k_356 k_354 k_355 2 eX_2 rfl q_X2_startEpoch (by decide) (Nat.zero_le _) (Nat.zero_le _) rfl (Nat.le_of_ble_eq_true rfl) d_X0_crash_48 hw (fun r5 u6 hw => ?_)
      try dsimp only at hw
      refine V_aload_n hc d_X0_crash_51 rfl 0 rfl ?_
      refine V_get (v := .ref (a 3)) hc uin_X0 0 eX_0 rfl 3 (by decide) k_236 rfl d_X0_crash_52 ?_
      refine V_aload_n hc d_X0_crash_55 rfl 0 rfl ?_
      refine V_get (v := .ref (a 4)) hc uin_X0 0 eX_0 rfl 4 (by decide) k_237 rfl d_X0_crash_56 ?_
      refine V_getN (v := .int (g_I u6 17)) hc uin_X4 4 eX_4 rfl 5 (by decide) k_215 rfl d_X0_crash_59 ?_
      refine V_aload_n hc d_X0_crash_62 rfl 0 rfl ?_
      refine V_get (v := .ref (a 4)) hc uin_X0 0 eX_0 rfl 4 (by decide) k_237 rfl d_X0_crash_63 ?_
      refine V_getN (v := .int (g_I u6 18)) hc uin_X4 4 eX_4 rfl 6 (by decide) k_217 rfl d_X0_crash_66 ?_
      refine V_callVv (As := [.int (g_I u6 17), .int (g_I u6 18)]) (st := []) hc TS_good NS_nest (fun _ h => h) (c_X3_restart l K cA D a (g_I u6 17) (g_I u6 18) u6) k_357 k_6 k_360 k_358 k_359 3 eX_3 rfl q_X3_restart (by decide) (Nat.zero_le _) (Nat.zero_le _) rfl (Nat.le_of_ble_eq_true rfl) d_X0_crash_69 hw (fun r7 u8 hw => ?_)
      try dsimp only at hw
      refine V_iconst (v := 1) hc d_X0_crash_72 (by decide) ?_
      exact V_zret hc NS_nest hr (by decide) hw d_X0_crash_73
    · replace hw := hw.2 h1
      by_cases h2 : x1 = 2
      · replace hw := hw.1 h2
        refine V_tableIn (tgt := 74) (off := 73) hc d_X0_crash_1 (by rw [h2]; decide) (by rw [h2]; decide) (by rw [h2]; decide) rfl ?_
        refine V_aload_n hc d_X0_crash_74 rfl 0 rfl ?_
        refine V_get (v := .ref (a 4)) hc uin_X0 0 eX_0 rfl 4 (by decide) k_237 rfl d_X0_crash_75 ?_
        refine V_callVv (As := []) (st := []) hc TS_good NS_nest (fun _ h => h) (c_X4_forgetStaged l K cA D a  z) k_349 k_8 k_352 k_350 k_351 4 eX_4 rfl q_X4_forgetStaged (by decide) (Nat.zero_le _) (Nat.zero_le _) rfl (Nat.le_of_ble_eq_true rfl) d_X0_crash_78 hw (fun r9 u10 hw => ?_)
        try dsimp only at hw
        refine V_iconst (v := 1) hc d_X0_crash_81 (by decide) ?_
        exact V_zret hc NS_nest hr (by decide) hw d_X0_crash_82
      · replace hw := hw.2 h2
        refine V_tableOut (tgt := 83) hc d_X0_crash_1 (by have e0 := lv_neT h0 (show (0 : Int32).toInt = 0 from by decide); have e1 := lv_neT h1 (show (1 : Int32).toInt = 1 from by decide); have e2 := lv_neT h2 (show (2 : Int32).toInt = 2 from by decide); omega) rfl ?_
        refine V_iconst (v := 0) hc d_X0_crash_83 (by decide) ?_
        exact V_zret hc NS_nest hr (by decide) hw d_X0_crash_84
def w_X6_start_12 (K : Nat) (Q : Unit → St → Prop) : Nat → Int32 → St → Prop
  | 0, _, _ => False
  | n + 1, v2, z => (((Int32.ofNat K) ≤ v2 → Q () z) ∧ (¬ (Int32.ofNat K) ≤ v2 → (vp_in v2 K ∧ w_X6_start_12 K Q n (v2 + 1) (s_A z 9 (v2 : Int32).toNatClampNeg 0))))
def w_X6_start (K : Nat) (x1 : Int32) (z : St) (Q : Unit → St → Prop) : Prop :=
  (∃ n9, w_X6_start_12 K Q n9 0 (s_I (s_I z 20 1) 21 x1))
set_option maxHeartbeats 4000000 in
set_option maxRecDepth 100000 in
theorem l_X6_start_12 (l : Launch) (K : Nat) (cA : Nat → ClassId) (D : va_G) (a : Nat → Nat) (Q : Unit → St → Prop) (p : Program) (e : Env) (s : State) (m : MethodId) (args : Array Value) (below : List Frame) (meth : Method) (c : Code) (hc : Cx TS NS CL D (tyX cA) p s m args meth c b_X6_start 3 y_X6_start.cls) (hr : meth.sig.returnType = none) : ∀ (n : Nat) (v2 : Int32) (z : St), w_X6_start_12 K Q n v2 z → V CL p l e { frames := 0, cells := 0, slots := 0, locals := 0 } s m args below meth c 3 D (AX 23 a s.heap.size) 0 0 (MQ below (Qg NS CL D (tyX cA) (WX K cA a) (AX 23 a s.heap.size) mkV Q) args s 0 0 (AX 23 a s.heap.size)) (WX K cA a z) 12 [(0, .ref (a 6)), (2, .int v2)] [] := by
  intro n
  induction n with
  | zero =>
    intro v2 z hw
    exact hw.elim
  | succ n ih =>
    intro v2 z hw
    unfold w_X6_start_12 at hw
    refine V_iload_n hc d_X6_start_12 rfl 1 rfl ?_
    refine V_aload_n hc d_X6_start_13 rfl 0 rfl ?_
    refine V_get (v := .ref (a 22)) hc uin_X6 6 eX_6 rfl 1 (by decide) k_126 rfl d_X6_start_14 ?_
    refine V_alen (v := (Int32.ofNat K)) hc 22 2 eX_22 rfl rfl d_X6_start_17 ?_
    refine V_icmp_ge (tgt := 34) hc d_X6_start_18 rfl (fun h => ?_) (fun h => ?_)
    · replace hw := hw.1 h
      exact V_vret hc NS_nest hr hw d_X6_start_34
    · replace hw := hw.2 h
      refine V_aload_n hc d_X6_start_21 rfl 0 rfl ?_
      refine V_get (v := .ref (a 22)) hc uin_X6 6 eX_6 rfl 1 (by decide) k_126 rfl d_X6_start_22 ?_
      refine V_iload_n hc d_X6_start_25 rfl 1 rfl ?_
      refine V_iconst (v := 0) hc d_X6_start_26 (by decide) ?_
      obtain ⟨hi, hw⟩ := hw
      refine V_zast hc 22 2 eX_22 rfl hi bX_22_0 d_X6_start_27 ?_
      refine V_iinc (v := (v2 + 1)) hc [(2, .int (v2 + 1)), (0, .ref (a 6))] d_X6_start_28 1 rfl (by rfl) (by decide) rfl ?_
      refine V_goto (tgt := 12) hc d_X6_start_31 rfl ?_
      refine V_sub [1, 0] [(0, .ref (a 6)), (2, .int (v2 + 1))] rfl ?_
      exact ih (v2 + 1) (s_A z 9 (v2 : Int32).toNatClampNeg 0) hw
set_option maxHeartbeats 4000000 in
set_option maxRecDepth 100000 in
theorem c_X6_start (l : Launch) (K : Nat) (cA : Nat → ClassId) (D : va_G) (a : Nat → Nat) (x1 : Int32) (z : St) : Ct l NS CL D (tyX cA) 23 a (WX K cA a) mkV y_X6_start (.code y_X6_start b_X6_start 3 none :: TS) { frames := 0, cells := 0, slots := 0, locals := 0 } [.ref (a 6), .int x1] z (w_X6_start K x1 z) := by
  refine Ct.of (by decide) (Nat.le_of_ble_eq_true rfl) adX ?_
  intro Q p e s m args below meth c hc hr hw
  unfold w_X6_start at hw
  refine V_st _ [(0, .ref (a 6)), (1, .int x1)] _ rfl rfl rfl ?_
  refine V_aload_n hc d_X6_start_0 rfl 0 rfl ?_
  refine V_iconst (v := 1) hc d_X6_start_1 (by decide) ?_
  refine V_put (ty := .int) hc uin_X6 6 eX_6 rfl 2 (by decide) t_X6 t_X6_ok n_X6 k_128 rfl (by decide +kernel) rfl rfl (Nat.le_of_ble_eq_true rfl) iX_20 d_X6_start_2 ?_
  refine V_aload_n hc d_X6_start_5 rfl 0 rfl ?_
  refine V_iload_n hc d_X6_start_6 rfl 1 rfl ?_
  refine V_put (ty := .int) hc uin_X6 6 eX_6 rfl 3 (by decide) t_X6 t_X6_ok n_X6 k_130 rfl (by decide +kernel) rfl rfl (Nat.le_of_ble_eq_true rfl) iX_21 d_X6_start_7 ?_
  refine V_iconst (v := 0) hc d_X6_start_10 (by decide) ?_
  refine V_istore_n hc [(2, .int 0), (0, .ref (a 6)), (1, .int x1)] d_X6_start_11 rfl (by decide) rfl ?_
  obtain ⟨n9, hw⟩ := hw
  refine V_sub [1, 0] [(0, .ref (a 6)), (2, .int 0)] rfl ?_
  exact l_X6_start_12 l K cA D a Q p e s m args below meth c hc hr n9 0 (s_I (s_I z 20 1) 21 x1) hw
def w_X3_beginChunk (K : Nat)  (z : St) (Q : Int32 → St → Prop) : Prop :=
  ((g_I z 13 < g_I z 5 → w_X1_hasRoom K 1 0 z (fun r1 u2 => ((¬ r1 = 0 → w_X5_write K 3 (-1) (-1) (-1) u2 (fun r3 u4 => w_X6_start K r3 u4 (fun r5 u6 => Q (g_I u6 20) u6))) ∧ (r1 = 0 → Q (-4) u2)))) ∧ (¬ g_I z 13 < g_I z 5 → Q (-2) z))
set_option maxHeartbeats 4000000 in
set_option maxRecDepth 100000 in
theorem c_X3_beginChunk (l : Launch) (K : Nat) (cA : Nat → ClassId) (D : va_G) (a : Nat → Nat)  (z : St) : Ct l NS CL D (tyX cA) 23 a (WX K cA a) mkI y_X3_beginChunk (.code y_X3_beginChunk b_X3_beginChunk 1 (some .int) :: TS) { frames := 1, cells := 0, slots := 0, locals := 25 } [.ref (a 3)] z (w_X3_beginChunk K  z) := by
  refine Ct.of (by decide) (Nat.le_of_ble_eq_true rfl) adX ?_
  intro Q p e s m args below meth c hc hr hw
  unfold w_X3_beginChunk at hw
  refine V_st _ [(0, .ref (a 3))] _ rfl rfl rfl ?_
  refine V_aload_n hc d_X3_beginChunk_0 rfl 0 rfl ?_
  refine V_get (v := .int (g_I z 13)) hc uin_X3 3 eX_3 rfl 16 (by decide) k_162 rfl d_X3_beginChunk_1 ?_
  refine V_aload_n hc d_X3_beginChunk_4 rfl 0 rfl ?_
  refine V_get (v := .int (g_I z 5)) hc uin_X3 3 eX_3 rfl 3 (by decide) k_147 rfl d_X3_beginChunk_5 ?_
  refine V_icmp_lt (tgt := 14) hc d_X3_beginChunk_8 rfl (fun h => ?_) (fun h => ?_)
  · replace hw := hw.1 h
    refine V_aload_n hc d_X3_beginChunk_14 rfl 0 rfl ?_
    refine V_get (v := .ref (a 1)) hc uin_X3 3 eX_3 rfl 1 (by decide) k_145 rfl d_X3_beginChunk_15 ?_
    refine V_iconst (v := 1) hc d_X3_beginChunk_18 (by decide) ?_
    refine V_iconst (v := 0) hc d_X3_beginChunk_19 (by decide) ?_
    refine V_callVi (As := [.int 1, .int 0]) (st := []) hc TS_good NS_nest (fun _ h => h) (c_X1_hasRoom l K cA D a 1 0 z) k_377 k_4 k_260 k_258 k_259 1 eX_1 rfl q_X1_hasRoom (by decide) (Nat.zero_le _) (Nat.zero_le _) rfl (Nat.le_of_ble_eq_true rfl) d_X3_beginChunk_20 hw (fun r1 u2 hw => ?_)
    try dsimp only at hw
    refine V_if_ne (tgt := 29) hc d_X3_beginChunk_23 rfl (fun h => ?_) (fun h => ?_)
    · replace hw := hw.1 h
      refine V_aload_n hc d_X3_beginChunk_29 rfl 0 rfl ?_
      refine V_get (v := .ref (a 6)) hc uin_X3 3 eX_3 rfl 6 (by decide) k_150 rfl d_X3_beginChunk_30 ?_
      refine V_aload_n hc d_X3_beginChunk_33 rfl 0 rfl ?_
      refine V_get (v := .ref (a 5)) hc uin_X3 3 eX_3 rfl 0 (by decide) k_144 rfl d_X3_beginChunk_34 ?_
      refine V_iconst (v := 3) hc d_X3_beginChunk_37 (by decide) ?_
      refine V_iconst (v := (-1)) hc d_X3_beginChunk_38 (by decide) ?_
      refine V_iconst (v := (-1)) hc d_X3_beginChunk_39 (by decide) ?_
      refine V_ldc2 (v := (-1)) hc k_378 d_X3_beginChunk_40 ?_
      refine V_callVi (As := [.int 3, .int (-1), .int (-1), .long (-1)]) (st := [.ref (a 6)]) hc TS_good NS_nest (fun _ h => h) (c_X5_write l K cA D a 3 (-1) (-1) (-1) u2) k_379 k_3 k_305 k_303 k_304 5 eX_5 rfl q_X5_write (by decide) (Nat.zero_le _) (Nat.zero_le _) rfl (Nat.le_of_ble_eq_true rfl) d_X3_beginChunk_43 hw (fun r3 u4 hw => ?_)
      try dsimp only at hw
      refine V_callVv (As := [.int r3]) (st := []) hc TS_good NS_nest (fun _ h => h) (c_X6_start l K cA D a r3 u4) k_380 k_7 k_383 k_381 k_382 6 eX_6 rfl q_X6_start (by decide) (Nat.zero_le _) (Nat.zero_le _) rfl (Nat.le_of_ble_eq_true rfl) d_X3_beginChunk_46 hw (fun r5 u6 hw => ?_)
      try dsimp only at hw
      refine V_aload_n hc d_X3_beginChunk_49 rfl 0 rfl ?_
      refine V_get (v := .ref (a 6)) hc uin_X3 3 eX_3 rfl 6 (by decide) k_150 rfl d_X3_beginChunk_50 ?_
      refine V_getN (v := .int (g_I u6 20)) hc uin_X6 6 eX_6 rfl 2 (by decide) k_129 rfl d_X3_beginChunk_53 ?_
      exact V_iret hc NS_nest hr hw d_X3_beginChunk_56
    · replace hw := hw.2 h
      refine V_bipush (v := (-4)) hc d_X3_beginChunk_26 (by decide) ?_
      exact V_iret hc NS_nest hr hw d_X3_beginChunk_28
  · replace hw := hw.2 h
    refine V_bipush (v := (-2)) hc d_X3_beginChunk_11 (by decide) ?_
    exact V_iret hc NS_nest hr hw d_X3_beginChunk_13
def w_X3_afterChunk (K : Nat)  (z : St) (Q : Int32 → St → Prop) : Prop :=
  Q (if g_I z 5 < (g_I z 13 + g_I z 6) then g_I z 5 else (g_I z 13 + g_I z 6)) z
set_option maxHeartbeats 4000000 in
set_option maxRecDepth 100000 in
theorem c_X3_afterChunk (l : Launch) (K : Nat) (cA : Nat → ClassId) (D : va_G) (a : Nat → Nat)  (z : St) : Ct l NS CL D (tyX cA) 23 a (WX K cA a) mkI y_X3_afterChunk (.code y_X3_afterChunk b_X3_afterChunk 1 (some .int) :: TS) { frames := 1, cells := 0, slots := 0, locals := 21 } [.ref (a 3)] z (w_X3_afterChunk K  z) := by
  refine Ct.of (by decide) (Nat.le_of_ble_eq_true rfl) adX ?_
  intro Q p e s m args below meth c hc hr hw
  unfold w_X3_afterChunk at hw
  refine V_st _ [(0, .ref (a 3))] _ rfl rfl rfl ?_
  refine V_aload_n hc d_X3_afterChunk_0 rfl 0 rfl ?_
  refine V_get (v := .int (g_I z 13)) hc uin_X3 3 eX_3 rfl 16 (by decide) k_162 rfl d_X3_afterChunk_1 ?_
  refine V_aload_n hc d_X3_afterChunk_4 rfl 0 rfl ?_
  refine V_get (v := .int (g_I z 6)) hc uin_X3 3 eX_3 rfl 4 (by decide) k_148 rfl d_X3_afterChunk_5 ?_
  refine V_iadd hc d_X3_afterChunk_8 rfl ?_
  refine V_aload_n hc d_X3_afterChunk_9 rfl 0 rfl ?_
  refine V_get (v := .int (g_I z 5)) hc uin_X3 3 eX_3 rfl 3 (by decide) k_147 rfl d_X3_afterChunk_10 ?_
  refine V_mmin hc k_388 k_24 k_2 k_25 (by decide) (Nat.le_of_ble_eq_true rfl) (Nat.zero_le _) (Nat.zero_le _) rfl d_X3_afterChunk_13 ?_
  exact V_iret hc NS_nest hr hw d_X3_afterChunk_16
def w_X6_select_8 (K : Nat) (Q : Unit → St → Prop) : Nat → Int32 → Int32 → St → Prop
  | 0, _, _, _ => False
  | n + 1, v3, v4, z => ((v3 ≤ v4 → Q () z) ∧ (¬ v3 ≤ v4 → w_X1_inTable K v4 z (fun r1 u2 => (vp_in v4 K ∧ w_X6_select_8 K Q n v3 (v4 + 1) (s_L u2 5 (v4 : Int32).toNatClampNeg r1)))))
def w_X6_select (K : Nat) (x2 : Int32) (x3 : Int32) (z : St) (Q : Unit → St → Prop) : Prop :=
  (∃ n9, w_X6_select_8 K Q n9 x3 x2 (s_I z 20 2))
set_option maxHeartbeats 4000000 in
set_option maxRecDepth 100000 in
theorem l_X6_select_8 (l : Launch) (K : Nat) (cA : Nat → ClassId) (D : va_G) (a : Nat → Nat) (Q : Unit → St → Prop) (p : Program) (e : Env) (s : State) (m : MethodId) (args : Array Value) (below : List Frame) (meth : Method) (c : Code) (hc : Cx TS NS CL D (tyX cA) p s m args meth c b_X6_select 5 y_X6_select.cls) (hr : meth.sig.returnType = none) : ∀ (n : Nat) (v3 : Int32) (v4 : Int32) (z : St), w_X6_select_8 K Q n v3 v4 z → V CL p l e { frames := 1, cells := 0, slots := 0, locals := 21 } s m args below meth c 5 D (AX 23 a s.heap.size) 0 0 (MQ below (Qg NS CL D (tyX cA) (WX K cA a) (AX 23 a s.heap.size) mkV Q) args s 0 0 (AX 23 a s.heap.size)) (WX K cA a z) 8 [(0, .ref (a 6)), (1, .ref (a 1)), (3, .int v3), (4, .int v4)] [] := by
  intro n
  induction n with
  | zero =>
    intro v3 v4 z hw
    exact hw.elim
  | succ n ih =>
    intro v3 v4 z hw
    unfold w_X6_select_8 at hw
    refine V_iload hc d_X6_select_8 3 rfl ?_
    refine V_iload_n hc d_X6_select_10 rfl 2 rfl ?_
    refine V_icmp_ge (tgt := 33) hc d_X6_select_11 rfl (fun h => ?_) (fun h => ?_)
    · replace hw := hw.1 h
      exact V_vret hc NS_nest hr hw d_X6_select_33
    · replace hw := hw.2 h
      refine V_aload_n hc d_X6_select_14 rfl 0 rfl ?_
      refine V_get (v := .ref (a 21)) hc uin_X6 6 eX_6 rfl 0 (by decide) k_125 rfl d_X6_select_15 ?_
      refine V_iload hc d_X6_select_18 3 rfl ?_
      refine V_aload_n hc d_X6_select_20 rfl 1 rfl ?_
      refine V_iload hc d_X6_select_21 3 rfl ?_
      refine V_callVl (As := [.int v4]) (st := [.int v4, .ref (a 21)]) hc TS_good NS_nest (fun _ h => h) (c_X1_inTable l K cA D a v4 z) k_393 k_4 k_339 k_337 k_338 1 eX_1 rfl q_X1_inTable (by decide) (Nat.zero_le _) (Nat.zero_le _) rfl (Nat.le_of_ble_eq_true rfl) d_X6_select_23 hw (fun r1 u2 hw => ?_)
      try dsimp only at hw
      obtain ⟨hi, hw⟩ := hw
      refine V_last hc 21 1 eX_21 rfl hi sX_21 d_X6_select_26 ?_
      refine V_iinc (v := (v4 + 1)) hc [(4, .int (v4 + 1)), (0, .ref (a 6)), (1, .ref (a 1)), (3, .int v3)] d_X6_select_27 3 rfl (by rfl) (by decide) rfl ?_
      refine V_goto (tgt := 8) hc d_X6_select_30 rfl ?_
      refine V_sub [1, 2, 3, 0] [(0, .ref (a 6)), (1, .ref (a 1)), (3, .int v3), (4, .int (v4 + 1))] rfl ?_
      exact ih v3 (v4 + 1) (s_L u2 5 (v4 : Int32).toNatClampNeg r1) hw
set_option maxHeartbeats 4000000 in
set_option maxRecDepth 100000 in
theorem c_X6_select (l : Launch) (K : Nat) (cA : Nat → ClassId) (D : va_G) (a : Nat → Nat) (x2 : Int32) (x3 : Int32) (z : St) : Ct l NS CL D (tyX cA) 23 a (WX K cA a) mkV y_X6_select (.code y_X6_select b_X6_select 5 none :: TS) { frames := 1, cells := 0, slots := 0, locals := 21 } [.ref (a 6), .ref (a 1), .int x2, .int x3] z (w_X6_select K x2 x3 z) := by
  refine Ct.of (by decide) (Nat.le_of_ble_eq_true rfl) adX ?_
  intro Q p e s m args below meth c hc hr hw
  unfold w_X6_select at hw
  refine V_st _ [(0, .ref (a 6)), (1, .ref (a 1)), (2, .int x2), (3, .int x3)] _ rfl rfl rfl ?_
  refine V_aload_n hc d_X6_select_0 rfl 0 rfl ?_
  refine V_iconst (v := 2) hc d_X6_select_1 (by decide) ?_
  refine V_put (ty := .int) hc uin_X6 6 eX_6 rfl 2 (by decide) t_X6 t_X6_ok n_X6 k_128 rfl (by decide +kernel) rfl rfl (Nat.le_of_ble_eq_true rfl) iX_20 d_X6_select_2 ?_
  refine V_iload_n hc d_X6_select_5 rfl 2 rfl ?_
  refine V_istore hc [(4, .int x2), (0, .ref (a 6)), (1, .ref (a 1)), (2, .int x2), (3, .int x3)] d_X6_select_6 (by decide) rfl ?_
  obtain ⟨n9, hw⟩ := hw
  refine V_sub [1, 2, 4, 0] [(0, .ref (a 6)), (1, .ref (a 1)), (3, .int x3), (4, .int x2)] rfl ?_
  exact l_X6_select_8 l K cA D a Q p e s m args below meth c hc hr n9 x3 x2 (s_I z 20 2) hw
def w_X6_close (K : Nat) (x1 : Int32) (z : St) (Q : Unit → St → Prop) : Prop :=
  Q () (s_I (s_I z 20 3) 22 x1)
set_option maxHeartbeats 4000000 in
set_option maxRecDepth 100000 in
theorem c_X6_close (l : Launch) (K : Nat) (cA : Nat → ClassId) (D : va_G) (a : Nat → Nat) (x1 : Int32) (z : St) : Ct l NS CL D (tyX cA) 23 a (WX K cA a) mkV y_X6_close (.code y_X6_close b_X6_close 2 none :: TS) { frames := 0, cells := 0, slots := 0, locals := 0 } [.ref (a 6), .int x1] z (w_X6_close K x1 z) := by
  refine Ct.of (by decide) (Nat.le_of_ble_eq_true rfl) adX ?_
  intro Q p e s m args below meth c hc hr hw
  unfold w_X6_close at hw
  refine V_st _ [(0, .ref (a 6)), (1, .int x1)] _ rfl rfl rfl ?_
  refine V_aload_n hc d_X6_close_0 rfl 0 rfl ?_
  refine V_iconst (v := 3) hc d_X6_close_1 (by decide) ?_
  refine V_put (ty := .int) hc uin_X6 6 eX_6 rfl 2 (by decide) t_X6 t_X6_ok n_X6 k_128 rfl (by decide +kernel) rfl rfl (Nat.le_of_ble_eq_true rfl) iX_20 d_X6_close_2 ?_
  refine V_aload_n hc d_X6_close_5 rfl 0 rfl ?_
  refine V_iload_n hc d_X6_close_6 rfl 1 rfl ?_
  refine V_put (ty := .int) hc uin_X6 6 eX_6 rfl 4 (by decide) t_X6 t_X6_ok n_X6 k_131 rfl (by decide +kernel) rfl rfl (Nat.le_of_ble_eq_true rfl) iX_22 d_X6_close_7 ?_
  exact V_vret hc NS_nest hr hw d_X6_close_10
def w_X3_closeChunk (K : Nat)  (z : St) (Q : Int32 → St → Prop) : Prop :=
  w_X1_hasRoom K 1 0 z (fun r1 u2 => ((¬ r1 = 0 → w_X5_write K 4 (-1) (g_I u2 13) (-1) u2 (fun r3 u4 => w_X6_close K r3 u4 (fun r5 u6 => Q (g_I u6 20) u6))) ∧ (r1 = 0 → Q (-4) u2)))
set_option maxHeartbeats 4000000 in
set_option maxRecDepth 100000 in
theorem c_X3_closeChunk (l : Launch) (K : Nat) (cA : Nat → ClassId) (D : va_G) (a : Nat → Nat)  (z : St) : Ct l NS CL D (tyX cA) 23 a (WX K cA a) mkI y_X3_closeChunk (.code y_X3_closeChunk b_X3_closeChunk 1 (some .int) :: TS) { frames := 1, cells := 0, slots := 0, locals := 25 } [.ref (a 3)] z (w_X3_closeChunk K  z) := by
  refine Ct.of (by decide) (Nat.le_of_ble_eq_true rfl) adX ?_
  intro Q p e s m args below meth c hc hr hw
  unfold w_X3_closeChunk at hw
  refine V_st _ [(0, .ref (a 3))] _ rfl rfl rfl ?_
  refine V_aload_n hc d_X3_closeChunk_0 rfl 0 rfl ?_
  refine V_get (v := .ref (a 1)) hc uin_X3 3 eX_3 rfl 1 (by decide) k_145 rfl d_X3_closeChunk_1 ?_
  refine V_iconst (v := 1) hc d_X3_closeChunk_4 (by decide) ?_
  refine V_iconst (v := 0) hc d_X3_closeChunk_5 (by decide) ?_
  refine V_callVi (As := [.int 1, .int 0]) (st := []) hc TS_good NS_nest (fun _ h => h) (c_X1_hasRoom l K cA D a 1 0 z) k_377 k_4 k_260 k_258 k_259 1 eX_1 rfl q_X1_hasRoom (by decide) (Nat.zero_le _) (Nat.zero_le _) rfl (Nat.le_of_ble_eq_true rfl) d_X3_closeChunk_6 hw (fun r1 u2 hw => ?_)
  try dsimp only at hw
  refine V_if_ne (tgt := 15) hc d_X3_closeChunk_9 rfl (fun h => ?_) (fun h => ?_)
  · replace hw := hw.1 h
    refine V_aload_n hc d_X3_closeChunk_15 rfl 0 rfl ?_
    refine V_get (v := .ref (a 6)) hc uin_X3 3 eX_3 rfl 6 (by decide) k_150 rfl d_X3_closeChunk_16 ?_
    refine V_aload_n hc d_X3_closeChunk_19 rfl 0 rfl ?_
    refine V_get (v := .ref (a 5)) hc uin_X3 3 eX_3 rfl 0 (by decide) k_144 rfl d_X3_closeChunk_20 ?_
    refine V_iconst (v := 4) hc d_X3_closeChunk_23 (by decide) ?_
    refine V_iconst (v := (-1)) hc d_X3_closeChunk_24 (by decide) ?_
    refine V_aload_n hc d_X3_closeChunk_25 rfl 0 rfl ?_
    refine V_get (v := .int (g_I u2 13)) hc uin_X3 3 eX_3 rfl 16 (by decide) k_162 rfl d_X3_closeChunk_26 ?_
    refine V_ldc2 (v := (-1)) hc k_378 d_X3_closeChunk_29 ?_
    refine V_callVi (As := [.int 4, .int (-1), .int (g_I u2 13), .long (-1)]) (st := [.ref (a 6)]) hc TS_good NS_nest (fun _ h => h) (c_X5_write l K cA D a 4 (-1) (g_I u2 13) (-1) u2) k_379 k_3 k_305 k_303 k_304 5 eX_5 rfl q_X5_write (by decide) (Nat.zero_le _) (Nat.zero_le _) rfl (Nat.le_of_ble_eq_true rfl) d_X3_closeChunk_32 hw (fun r3 u4 hw => ?_)
    try dsimp only at hw
    refine V_callVv (As := [.int r3]) (st := []) hc TS_good NS_nest (fun _ h => h) (c_X6_close l K cA D a r3 u4) k_398 k_7 k_401 k_399 k_400 6 eX_6 rfl q_X6_close (by decide) (Nat.zero_le _) (Nat.zero_le _) rfl (Nat.le_of_ble_eq_true rfl) d_X3_closeChunk_35 hw (fun r5 u6 hw => ?_)
    try dsimp only at hw
    refine V_aload_n hc d_X3_closeChunk_38 rfl 0 rfl ?_
    refine V_get (v := .ref (a 6)) hc uin_X3 3 eX_3 rfl 6 (by decide) k_150 rfl d_X3_closeChunk_39 ?_
    refine V_getN (v := .int (g_I u6 20)) hc uin_X6 6 eX_6 rfl 2 (by decide) k_129 rfl d_X3_closeChunk_42 ?_
    exact V_iret hc NS_nest hr hw d_X3_closeChunk_45
  · replace hw := hw.2 h
    refine V_bipush (v := (-4)) hc d_X3_closeChunk_12 (by decide) ?_
    exact V_iret hc NS_nest hr hw d_X3_closeChunk_14
def w_X3_advanceChunk (K : Nat)  (z : St) (Q : Int32 → St → Prop) : Prop :=
  ((g_I z 20 = 0 → w_X3_beginChunk K  z (fun r1 u2 => Q r1 u2)) ∧ (¬ g_I z 20 = 0 → ((g_I z 20 = 1 → w_X3_afterChunk K  z (fun r3 u4 => w_X6_select K (g_I z 13) r3 u4 (fun r5 u6 => Q (g_I u6 20) u6))) ∧ (¬ g_I z 20 = 1 → ((g_I z 20 = 2 → w_X3_closeChunk K  z (fun r7 u8 => Q r7 u8)) ∧ (¬ g_I z 20 = 2 → Q (-2) z))))))
set_option maxHeartbeats 4000000 in
set_option maxRecDepth 100000 in
theorem c_X3_advanceChunk (l : Launch) (K : Nat) (cA : Nat → ClassId) (D : va_G) (a : Nat → Nat)  (z : St) : Ct l NS CL D (tyX cA) 23 a (WX K cA a) mkI y_X3_advanceChunk (.code y_X3_advanceChunk b_X3_advanceChunk 1 (some .int) :: TS) { frames := 2, cells := 0, slots := 0, locals := 45 } [.ref (a 3)] z (w_X3_advanceChunk K  z) := by
  refine Ct.of (by decide) (Nat.le_of_ble_eq_true rfl) adX ?_
  intro Q p e s m args below meth c hc hr hw
  unfold w_X3_advanceChunk at hw
  refine V_st _ [(0, .ref (a 3))] _ rfl rfl rfl ?_
  refine V_aload_n hc d_X3_advanceChunk_0 rfl 0 rfl ?_
  refine V_get (v := .ref (a 6)) hc uin_X3 3 eX_3 rfl 6 (by decide) k_150 rfl d_X3_advanceChunk_1 ?_
  refine V_getN (v := .int (g_I z 20)) hc uin_X6 6 eX_6 rfl 2 (by decide) k_129 rfl d_X3_advanceChunk_4 ?_
  by_cases h0 : g_I z 20 = 0
  · replace hw := hw.1 h0
    refine V_tableIn (tgt := 32) (off := 25) hc d_X3_advanceChunk_7 (by rw [h0]; decide) (by rw [h0]; decide) (by rw [h0]; decide) rfl ?_
    refine V_aload_n hc d_X3_advanceChunk_32 rfl 0 rfl ?_
    refine V_callVi (As := []) (st := []) hc TS_good NS_nest (fun _ h => h) (c_X3_beginChunk l K cA D a  z) k_373 k_6 k_376 k_375 kp_X3_beginChunk 3 eX_3 rfl q_X3_beginChunk (by decide) (Nat.zero_le _) (Nat.zero_le _) rfl (Nat.le_of_ble_eq_true rfl) d_X3_advanceChunk_33 hw (fun r1 u2 hw => ?_)
    try dsimp only at hw
    exact V_iret hc NS_nest hr hw d_X3_advanceChunk_36
  · replace hw := hw.2 h0
    by_cases h1 : g_I z 20 = 1
    · replace hw := hw.1 h1
      refine V_tableIn (tgt := 37) (off := 30) hc d_X3_advanceChunk_7 (by rw [h1]; decide) (by rw [h1]; decide) (by rw [h1]; decide) rfl ?_
      refine V_aload_n hc d_X3_advanceChunk_37 rfl 0 rfl ?_
      refine V_get (v := .ref (a 6)) hc uin_X3 3 eX_3 rfl 6 (by decide) k_150 rfl d_X3_advanceChunk_38 ?_
      refine V_aload_n hc d_X3_advanceChunk_41 rfl 0 rfl ?_
      refine V_get (v := .ref (a 1)) hc uin_X3 3 eX_3 rfl 1 (by decide) k_145 rfl d_X3_advanceChunk_42 ?_
      refine V_aload_n hc d_X3_advanceChunk_45 rfl 0 rfl ?_
      refine V_get (v := .int (g_I z 13)) hc uin_X3 3 eX_3 rfl 16 (by decide) k_162 rfl d_X3_advanceChunk_46 ?_
      refine V_aload_n hc d_X3_advanceChunk_49 rfl 0 rfl ?_
      refine V_callVi (As := []) (st := [.int (g_I z 13), .ref (a 1), .ref (a 6)]) hc TS_good NS_nest (fun _ h => h) (c_X3_afterChunk l K cA D a  z) k_384 k_6 k_387 k_386 kp_X3_afterChunk 3 eX_3 rfl q_X3_afterChunk (by decide) (Nat.zero_le _) (Nat.zero_le _) rfl (Nat.le_of_ble_eq_true rfl) d_X3_advanceChunk_50 hw (fun r3 u4 hw => ?_)
      try dsimp only at hw
      refine V_callVv (As := [.ref (a 1), .int (g_I z 13), .int r3]) (st := []) hc TS_good NS_nest (fun _ h => h) (c_X6_select l K cA D a (g_I z 13) r3 u4) k_389 k_7 k_392 k_390 k_391 6 eX_6 rfl q_X6_select (by decide) (Nat.zero_le _) (Nat.zero_le _) rfl (Nat.le_of_ble_eq_true rfl) d_X3_advanceChunk_53 hw (fun r5 u6 hw => ?_)
      try dsimp only at hw
      refine V_aload_n hc d_X3_advanceChunk_56 rfl 0 rfl ?_
      refine V_get (v := .ref (a 6)) hc uin_X3 3 eX_3 rfl 6 (by decide) k_150 rfl d_X3_advanceChunk_57 ?_
      refine V_getN (v := .int (g_I u6 20)) hc uin_X6 6 eX_6 rfl 2 (by decide) k_129 rfl d_X3_advanceChunk_60 ?_
      exact V_iret hc NS_nest hr hw d_X3_advanceChunk_63
    · replace hw := hw.2 h1
      by_cases h2 : g_I z 20 = 2
      · replace hw := hw.1 h2
        refine V_tableIn (tgt := 64) (off := 57) hc d_X3_advanceChunk_7 (by rw [h2]; decide) (by rw [h2]; decide) (by rw [h2]; decide) rfl ?_
        refine V_aload_n hc d_X3_advanceChunk_64 rfl 0 rfl ?_
        refine V_callVi (As := []) (st := []) hc TS_good NS_nest (fun _ h => h) (c_X3_closeChunk l K cA D a  z) k_394 k_6 k_397 k_396 kp_X3_closeChunk 3 eX_3 rfl q_X3_closeChunk (by decide) (Nat.zero_le _) (Nat.zero_le _) rfl (Nat.le_of_ble_eq_true rfl) d_X3_advanceChunk_65 hw (fun r7 u8 hw => ?_)
        try dsimp only at hw
        exact V_iret hc NS_nest hr hw d_X3_advanceChunk_68
      · replace hw := hw.2 h2
        refine V_tableOut (tgt := 69) hc d_X3_advanceChunk_7 (by have e0 := lv_neT h0 (show (0 : Int32).toInt = 0 from by decide); have e1 := lv_neT h1 (show (1 : Int32).toInt = 1 from by decide); have e2 := lv_neT h2 (show (2 : Int32).toInt = 2 from by decide); omega) rfl ?_
        refine V_bipush (v := (-2)) hc d_X3_advanceChunk_69 (by decide) ?_
        exact V_iret hc NS_nest hr hw d_X3_advanceChunk_71
def w_X0_snapshot (K : Nat)  (z : St) (Q : Int32 → St → Prop) : Prop :=
  w_X3_advanceChunk K  z (fun r1 u2 => Q r1 u2)
set_option maxHeartbeats 4000000 in
set_option maxRecDepth 100000 in
theorem c_X0_snapshot (l : Launch) (K : Nat) (cA : Nat → ClassId) (D : va_G) (a : Nat → Nat)  (z : St) : Ct l NS CL D (tyX cA) 23 a (WX K cA a) mkI y_X0_snapshot (.code y_X0_snapshot b_X0_snapshot 1 (some .int) :: TS) { frames := 3, cells := 0, slots := 0, locals := 65 } [.ref (a 0)] z (w_X0_snapshot K  z) := by
  refine Ct.of (by decide) (Nat.le_of_ble_eq_true rfl) adX ?_
  intro Q p e s m args below meth c hc hr hw
  unfold w_X0_snapshot at hw
  refine V_st _ [(0, .ref (a 0))] _ rfl rfl rfl ?_
  refine V_aload_n hc d_X0_snapshot_0 rfl 0 rfl ?_
  refine V_get (v := .ref (a 3)) hc uin_X0 0 eX_0 rfl 3 (by decide) k_236 rfl d_X0_snapshot_1 ?_
  refine V_callVi (As := []) (st := []) hc TS_good NS_nest (fun _ h => h) (c_X3_advanceChunk l K cA D a  z) k_369 k_6 k_372 k_370 k_371 3 eX_3 rfl q_X3_advanceChunk (by decide) (Nat.zero_le _) (Nat.zero_le _) rfl (Nat.le_of_ble_eq_true rfl) d_X0_snapshot_4 hw (fun r1 u2 hw => ?_)
  try dsimp only at hw
  exact V_iret hc NS_nest hr hw d_X0_snapshot_7
def w_X6_isItsHigh (K : Nat) (x1 : Int32) (z : St) (Q : Int32 → St → Prop) : Prop :=
  ((¬ g_I z 20 = 3 → Q 0 z) ∧ (g_I z 20 = 3 → ((¬ g_I z 22 = x1 → Q 0 z) ∧ (g_I z 22 = x1 → Q 1 z))))
set_option maxHeartbeats 4000000 in
set_option maxRecDepth 100000 in
theorem c_X6_isItsHigh (l : Launch) (K : Nat) (cA : Nat → ClassId) (D : va_G) (a : Nat → Nat) (x1 : Int32) (z : St) : Ct l NS CL D (tyX cA) 23 a (WX K cA a) mkI y_X6_isItsHigh (.code y_X6_isItsHigh b_X6_isItsHigh 2 (some .boolean) :: TS) { frames := 0, cells := 0, slots := 0, locals := 0 } [.ref (a 6), .int x1] z (w_X6_isItsHigh K x1 z) := by
  refine Ct.of (by decide) (Nat.le_of_ble_eq_true rfl) adX ?_
  intro Q p e s m args below meth c hc hr hw
  unfold w_X6_isItsHigh at hw
  refine V_st _ [(0, .ref (a 6)), (1, .int x1)] _ rfl rfl rfl ?_
  refine V_aload_n hc d_X6_isItsHigh_0 rfl 0 rfl ?_
  refine V_get (v := .int (g_I z 20)) hc uin_X6 6 eX_6 rfl 2 (by decide) k_128 rfl d_X6_isItsHigh_1 ?_
  refine V_iconst (v := 3) hc d_X6_isItsHigh_4 (by decide) ?_
  refine V_icmp_ne (tgt := 20) hc d_X6_isItsHigh_5 rfl (fun h => ?_) (fun h => ?_)
  · replace hw := hw.1 h
    refine V_iconst (v := 0) hc d_X6_isItsHigh_20 (by decide) ?_
    exact V_zret hc NS_nest hr (by decide) hw d_X6_isItsHigh_21
  · replace hw := hw.2 h
    refine V_aload_n hc d_X6_isItsHigh_8 rfl 0 rfl ?_
    refine V_get (v := .int (g_I z 22)) hc uin_X6 6 eX_6 rfl 4 (by decide) k_131 rfl d_X6_isItsHigh_9 ?_
    refine V_iload_n hc d_X6_isItsHigh_12 rfl 1 rfl ?_
    refine V_icmp_ne (tgt := 20) hc d_X6_isItsHigh_13 rfl (fun h => ?_) (fun h => ?_)
    · replace hw := hw.1 h
      refine V_iconst (v := 0) hc d_X6_isItsHigh_20 (by decide) ?_
      exact V_zret hc NS_nest hr (by decide) hw d_X6_isItsHigh_21
    · replace hw := hw.2 h
      refine V_iconst (v := 1) hc d_X6_isItsHigh_16 (by decide) ?_
      refine V_goto (tgt := 21) hc d_X6_isItsHigh_17 rfl ?_
      exact V_zret hc NS_nest hr (by decide) hw d_X6_isItsHigh_21
def w_X3_isToBeEmitted (K : Nat)  (z : St) (Q : Int32 → St → Prop) : Prop :=
  (vp_in (g_I z 12) 160 ∧ ((¬ (g_A z 6 (g_I z 12 : Int32).toNatClampNeg) = 1 → w_X6_isItsHigh K (g_I z 12) z (fun r1 u2 => (narrow .boolean (.int r1) = .int r1 ∧ Q r1 u2))) ∧ ((g_A z 6 (g_I z 12 : Int32).toNatClampNeg) = 1 → ((g_I z 12 ≤ g_I z 10 → Q 0 z) ∧ (¬ g_I z 12 ≤ g_I z 10 → Q 1 z)))))
set_option maxHeartbeats 4000000 in
set_option maxRecDepth 100000 in
theorem c_X3_isToBeEmitted (l : Launch) (K : Nat) (cA : Nat → ClassId) (D : va_G) (a : Nat → Nat)  (z : St) : Ct l NS CL D (tyX cA) 23 a (WX K cA a) mkI y_X3_isToBeEmitted (.code y_X3_isToBeEmitted b_X3_isToBeEmitted 1 (some .boolean) :: TS) { frames := 1, cells := 0, slots := 0, locals := 21 } [.ref (a 3)] z (w_X3_isToBeEmitted K  z) := by
  refine Ct.of (by decide) (Nat.le_of_ble_eq_true rfl) adX ?_
  intro Q p e s m args below meth c hc hr hw
  unfold w_X3_isToBeEmitted at hw
  refine V_st _ [(0, .ref (a 3))] _ rfl rfl rfl ?_
  refine V_aload_n hc d_X3_isToBeEmitted_0 rfl 0 rfl ?_
  refine V_get (v := .ref (a 5)) hc uin_X3 3 eX_3 rfl 0 (by decide) k_144 rfl d_X3_isToBeEmitted_1 ?_
  refine V_getN (v := .ref (a 17)) hc uin_X5 5 eX_5 rfl 0 (by decide) k_37 rfl d_X3_isToBeEmitted_4 ?_
  refine V_aload_n hc d_X3_isToBeEmitted_7 rfl 0 rfl ?_
  refine V_get (v := .int (g_I z 12)) hc uin_X3 3 eX_3 rfl 15 (by decide) k_161 rfl d_X3_isToBeEmitted_8 ?_
  obtain ⟨hi, hw⟩ := hw
  refine V_iald (x := g_A z 6 (g_I z 12 : Int32).toNatClampNeg) hc 17 0 eX_17 rfl hi rfl d_X3_isToBeEmitted_11 ?_
  refine V_iconst (v := 1) hc d_X3_isToBeEmitted_12 (by decide) ?_
  refine V_icmp_ne (tgt := 35) hc d_X3_isToBeEmitted_13 rfl (fun h => ?_) (fun h => ?_)
  · replace hw := hw.1 h
    refine V_aload_n hc d_X3_isToBeEmitted_35 rfl 0 rfl ?_
    refine V_get (v := .ref (a 6)) hc uin_X3 3 eX_3 rfl 6 (by decide) k_150 rfl d_X3_isToBeEmitted_36 ?_
    refine V_aload_n hc d_X3_isToBeEmitted_39 rfl 0 rfl ?_
    refine V_get (v := .int (g_I z 12)) hc uin_X3 3 eX_3 rfl 15 (by decide) k_161 rfl d_X3_isToBeEmitted_40 ?_
    refine V_callVi (As := [.int (g_I z 12)]) (st := []) hc TS_good NS_nest (fun _ h => h) (c_X6_isItsHigh l K cA D a (g_I z 12) z) k_414 k_7 k_417 k_415 k_416 6 eX_6 rfl q_X6_isItsHigh (by decide) (Nat.zero_le _) (Nat.zero_le _) rfl (Nat.le_of_ble_eq_true rfl) d_X3_isToBeEmitted_43 hw (fun r1 u2 hw => ?_)
    try dsimp only at hw
    exact V_zret hc NS_nest hr hw.1 hw.2 d_X3_isToBeEmitted_46
  · replace hw := hw.2 h
    refine V_aload_n hc d_X3_isToBeEmitted_16 rfl 0 rfl ?_
    refine V_get (v := .int (g_I z 12)) hc uin_X3 3 eX_3 rfl 15 (by decide) k_161 rfl d_X3_isToBeEmitted_17 ?_
    refine V_aload_n hc d_X3_isToBeEmitted_20 rfl 0 rfl ?_
    refine V_get (v := .int (g_I z 10)) hc uin_X3 3 eX_3 rfl 13 (by decide) k_159 rfl d_X3_isToBeEmitted_21 ?_
    refine V_icmp_le (tgt := 31) hc d_X3_isToBeEmitted_24 rfl (fun h => ?_) (fun h => ?_)
    · replace hw := hw.1 h
      refine V_iconst (v := 0) hc d_X3_isToBeEmitted_31 (by decide) ?_
      refine V_goto (tgt := 46) hc d_X3_isToBeEmitted_32 rfl ?_
      exact V_zret hc NS_nest hr (by decide) hw d_X3_isToBeEmitted_46
    · replace hw := hw.2 h
      refine V_iconst (v := 1) hc d_X3_isToBeEmitted_27 (by decide) ?_
      refine V_goto (tgt := 46) hc d_X3_isToBeEmitted_28 rfl ?_
      exact V_zret hc NS_nest hr (by decide) hw d_X3_isToBeEmitted_46
def w_X2_append (K : Nat) (x1 : Int32) (x2 : Int32) (x3 : Int32) (x4 : Int32) (z : St) (Q : Int32 → St → Prop) : Prop :=
  ((g_I z 3 < 8 → (vp_in ((g_I z 3 * 4) + 0) 32 ∧ (vp_in ((g_I z 3 * 4) + 1) 32 ∧ (vp_in ((g_I z 3 * 4) + 2) 32 ∧ (vp_in ((g_I z 3 * 4) + 3) 32 ∧ Q 1 (s_I (s_A (s_A (s_A (s_A z 2 (((g_I z 3 * 4) + 0) : Int32).toNatClampNeg x1) 2 (((g_I z 3 * 4) + 1) : Int32).toNatClampNeg x2) 2 (((g_I z 3 * 4) + 2) : Int32).toNatClampNeg x3) 2 (((g_I z 3 * 4) + 3) : Int32).toNatClampNeg x4) 3 (g_I z 3 + 1))))))) ∧ (¬ g_I z 3 < 8 → Q 0 z))
set_option maxHeartbeats 4000000 in
set_option maxRecDepth 100000 in
theorem c_X2_append (l : Launch) (K : Nat) (cA : Nat → ClassId) (D : va_G) (a : Nat → Nat) (x1 : Int32) (x2 : Int32) (x3 : Int32) (x4 : Int32) (z : St) : Ct l NS CL D (tyX cA) 23 a (WX K cA a) mkI y_X2_append (.code y_X2_append b_X2_append 6 (some .boolean) :: TS) { frames := 0, cells := 0, slots := 0, locals := 0 } [.ref (a 2), .int x1, .int x2, .int x3, .int x4] z (w_X2_append K x1 x2 x3 x4 z) := by
  refine Ct.of (by decide) (Nat.le_of_ble_eq_true rfl) adX ?_
  intro Q p e s m args below meth c hc hr hw
  unfold w_X2_append at hw
  refine V_st _ [(0, .ref (a 2)), (1, .int x1), (2, .int x2), (3, .int x3), (4, .int x4)] _ rfl rfl rfl ?_
  refine V_aload_n hc d_X2_append_0 rfl 0 rfl ?_
  refine V_get (v := .int (g_I z 3)) hc uin_X2 2 eX_2 rfl 1 (by decide) k_102 rfl d_X2_append_1 ?_
  refine V_bipush (v := 8) hc d_X2_append_4 (by decide) ?_
  refine V_icmp_lt (tgt := 11) hc d_X2_append_6 rfl (fun h => ?_) (fun h => ?_)
  · replace hw := hw.1 h
    refine V_aload_n hc d_X2_append_11 rfl 0 rfl ?_
    refine V_get (v := .int (g_I z 3)) hc uin_X2 2 eX_2 rfl 1 (by decide) k_102 rfl d_X2_append_12 ?_
    refine V_iconst (v := 4) hc d_X2_append_15 (by decide) ?_
    refine V_imul hc d_X2_append_16 rfl ?_
    refine V_istore hc [(5, .int (g_I z 3 * 4)), (0, .ref (a 2)), (1, .int x1), (2, .int x2), (3, .int x3), (4, .int x4)] d_X2_append_17 (by decide) rfl ?_
    refine V_aload_n hc d_X2_append_19 rfl 1 rfl ?_
    refine V_get (v := .ref (a 11)) hc uin_X2 2 eX_2 rfl 0 (by decide) k_101 rfl d_X2_append_20 ?_
    refine V_iload hc d_X2_append_23 0 rfl ?_
    refine V_iconst (v := 0) hc d_X2_append_25 (by decide) ?_
    refine V_iadd hc d_X2_append_26 rfl ?_
    refine V_iload_n hc d_X2_append_27 rfl 2 rfl ?_
    obtain ⟨hi, hw⟩ := hw
    refine V_iast hc 11 0 eX_11 rfl hi sX_11 d_X2_append_28 ?_
    refine V_aload_n hc d_X2_append_29 rfl 1 rfl ?_
    refine V_get (v := .ref (a 11)) hc uin_X2 2 eX_2 rfl 0 (by decide) k_101 rfl d_X2_append_30 ?_
    refine V_iload hc d_X2_append_33 0 rfl ?_
    refine V_iconst (v := 1) hc d_X2_append_35 (by decide) ?_
    refine V_iadd hc d_X2_append_36 rfl ?_
    refine V_iload_n hc d_X2_append_37 rfl 3 rfl ?_
    obtain ⟨hi, hw⟩ := hw
    refine V_iast hc 11 0 eX_11 rfl hi sX_11 d_X2_append_38 ?_
    refine V_aload_n hc d_X2_append_39 rfl 1 rfl ?_
    refine V_get (v := .ref (a 11)) hc uin_X2 2 eX_2 rfl 0 (by decide) k_101 rfl d_X2_append_40 ?_
    refine V_iload hc d_X2_append_43 0 rfl ?_
    refine V_iconst (v := 2) hc d_X2_append_45 (by decide) ?_
    refine V_iadd hc d_X2_append_46 rfl ?_
    refine V_iload_n hc d_X2_append_47 rfl 4 rfl ?_
    obtain ⟨hi, hw⟩ := hw
    refine V_iast hc 11 0 eX_11 rfl hi sX_11 d_X2_append_48 ?_
    refine V_aload_n hc d_X2_append_49 rfl 1 rfl ?_
    refine V_get (v := .ref (a 11)) hc uin_X2 2 eX_2 rfl 0 (by decide) k_101 rfl d_X2_append_50 ?_
    refine V_iload hc d_X2_append_53 0 rfl ?_
    refine V_iconst (v := 3) hc d_X2_append_55 (by decide) ?_
    refine V_iadd hc d_X2_append_56 rfl ?_
    refine V_iload hc d_X2_append_57 5 rfl ?_
    obtain ⟨hi, hw⟩ := hw
    refine V_iast hc 11 0 eX_11 rfl hi sX_11 d_X2_append_59 ?_
    refine V_aload_n hc d_X2_append_60 rfl 1 rfl ?_
    refine V_dup hc d_X2_append_61 rfl ?_
    refine V_get (v := .int (g_I z 3)) hc uin_X2 2 eX_2 rfl 1 (by decide) k_102 rfl d_X2_append_62 ?_
    refine V_iconst (v := 1) hc d_X2_append_65 (by decide) ?_
    refine V_iadd hc d_X2_append_66 rfl ?_
    refine V_put (ty := .int) hc uin_X2 2 eX_2 rfl 1 (by decide) t_X2 t_X2_ok n_X2 k_102 rfl (by decide +kernel) rfl rfl (Nat.le_of_ble_eq_true rfl) iX_3 d_X2_append_67 ?_
    refine V_iconst (v := 1) hc d_X2_append_70 (by decide) ?_
    exact V_zret hc NS_nest hr (by decide) hw d_X2_append_71
  · replace hw := hw.2 h
    refine V_iconst (v := 0) hc d_X2_append_9 (by decide) ?_
    exact V_zret hc NS_nest hr (by decide) hw d_X2_append_10
def w_X2_send (K : Nat) (x1 : Int32) (x2 : Int32) (x3 : Int32) (z : St) (Q : Unit → St → Prop) : Prop :=
  w_X2_append K x1 (g_I z 4) x2 x3 z (fun r1 u2 => Q () u2)
set_option maxHeartbeats 4000000 in
set_option maxRecDepth 100000 in
theorem c_X2_send (l : Launch) (K : Nat) (cA : Nat → ClassId) (D : va_G) (a : Nat → Nat) (x1 : Int32) (x2 : Int32) (x3 : Int32) (z : St) : Ct l NS CL D (tyX cA) 23 a (WX K cA a) mkV y_X2_send (.code y_X2_send b_X2_send 4 none :: TS) { frames := 1, cells := 0, slots := 0, locals := 25 } [.ref (a 2), .int x1, .int x2, .int x3] z (w_X2_send K x1 x2 x3 z) := by
  refine Ct.of (by decide) (Nat.le_of_ble_eq_true rfl) adX ?_
  intro Q p e s m args below meth c hc hr hw
  unfold w_X2_send at hw
  refine V_st _ [(0, .ref (a 2)), (1, .int x1), (2, .int x2), (3, .int x3)] _ rfl rfl rfl ?_
  refine V_aload_n hc d_X2_send_0 rfl 0 rfl ?_
  refine V_iload_n hc d_X2_send_1 rfl 1 rfl ?_
  refine V_aload_n hc d_X2_send_2 rfl 0 rfl ?_
  refine V_get (v := .int (g_I z 4)) hc uin_X2 2 eX_2 rfl 2 (by decide) k_104 rfl d_X2_send_3 ?_
  refine V_iload_n hc d_X2_send_6 rfl 2 rfl ?_
  refine V_iload_n hc d_X2_send_7 rfl 3 rfl ?_
  refine V_callVi (As := [.int x1, .int (g_I z 4), .int x2, .int x3]) (st := []) hc TS_good NS_nest (fun _ h => h) (c_X2_append l K cA D a x1 (g_I z 4) x2 x3 z) k_434 k_5 k_437 k_436 kp_X2_append 2 eX_2 rfl q_X2_append (by decide) (Nat.zero_le _) (Nat.zero_le _) rfl (Nat.le_of_ble_eq_true rfl) d_X2_send_8 hw (fun r1 u2 hw => ?_)
  try dsimp only at hw
  refine V_pop hc d_X2_send_11 rfl ?_
  exact V_vret hc NS_nest hr hw d_X2_send_12
def w_X3_sendQueued (K : Nat) (x1 : Int32) (z : St) (Q : Unit → St → Prop) : Prop :=
  (vp_in x1 4 ∧ (vp_in (g_A z 3 (x1 : Int32).toNatClampNeg) 160 ∧ ((¬ (g_A z 6 ((g_A z 3 (x1 : Int32).toNatClampNeg) : Int32).toNatClampNeg) = 4 → (vp_in x1 4 ∧ (vp_in x1 4 ∧ w_X2_send K 0 (g_A z 3 (x1 : Int32).toNatClampNeg) (g_A z 4 (x1 : Int32).toNatClampNeg) z (fun r1 u2 => (vp_in x1 4 ∧ Q () (s_A u2 5 (x1 : Int32).toNatClampNeg (g_I u2 9))))))) ∧ ((g_A z 6 ((g_A z 3 (x1 : Int32).toNatClampNeg) : Int32).toNatClampNeg) = 4 → (vp_in x1 4 ∧ (vp_in x1 4 ∧ w_X2_send K 1 (g_A z 3 (x1 : Int32).toNatClampNeg) (g_A z 4 (x1 : Int32).toNatClampNeg) z (fun r3 u4 => (vp_in x1 4 ∧ Q () (s_A u4 5 (x1 : Int32).toNatClampNeg (g_I u4 9))))))))))
set_option maxHeartbeats 4000000 in
set_option maxRecDepth 100000 in
theorem c_X3_sendQueued (l : Launch) (K : Nat) (cA : Nat → ClassId) (D : va_G) (a : Nat → Nat) (x1 : Int32) (z : St) : Ct l NS CL D (tyX cA) 23 a (WX K cA a) mkV y_X3_sendQueued (.code y_X3_sendQueued b_X3_sendQueued 3 none :: TS) { frames := 2, cells := 0, slots := 0, locals := 48 } [.ref (a 3), .int x1] z (w_X3_sendQueued K x1 z) := by
  refine Ct.of (by decide) (Nat.le_of_ble_eq_true rfl) adX ?_
  intro Q p e s m args below meth c hc hr hw
  unfold w_X3_sendQueued at hw
  refine V_st _ [(0, .ref (a 3)), (1, .int x1)] _ rfl rfl rfl ?_
  refine V_aload_n hc d_X3_sendQueued_0 rfl 0 rfl ?_
  refine V_get (v := .ref (a 5)) hc uin_X3 3 eX_3 rfl 0 (by decide) k_144 rfl d_X3_sendQueued_1 ?_
  refine V_getN (v := .ref (a 17)) hc uin_X5 5 eX_5 rfl 0 (by decide) k_37 rfl d_X3_sendQueued_4 ?_
  refine V_aload_n hc d_X3_sendQueued_7 rfl 0 rfl ?_
  refine V_get (v := .ref (a 13)) hc uin_X3 3 eX_3 rfl 8 (by decide) k_153 rfl d_X3_sendQueued_8 ?_
  refine V_iload_n hc d_X3_sendQueued_11 rfl 1 rfl ?_
  obtain ⟨hi, hw⟩ := hw
  refine V_iald (x := g_A z 3 (x1 : Int32).toNatClampNeg) hc 13 0 eX_13 rfl hi rfl d_X3_sendQueued_12 ?_
  obtain ⟨hi, hw⟩ := hw
  refine V_iald (x := g_A z 6 ((g_A z 3 (x1 : Int32).toNatClampNeg) : Int32).toNatClampNeg) hc 17 0 eX_17 rfl hi rfl d_X3_sendQueued_13 ?_
  refine V_iconst (v := 4) hc d_X3_sendQueued_14 (by decide) ?_
  refine V_icmp_ne (tgt := 22) hc d_X3_sendQueued_15 rfl (fun h => ?_) (fun h => ?_)
  · replace hw := hw.1 h
    refine V_iconst (v := 0) hc d_X3_sendQueued_22 (by decide) ?_
    refine V_istore_n hc [(2, .int 0), (0, .ref (a 3)), (1, .int x1)] d_X3_sendQueued_23 rfl (by decide) rfl ?_
    refine V_aload_n hc d_X3_sendQueued_24 rfl 1 rfl ?_
    refine V_get (v := .ref (a 2)) hc uin_X3 3 eX_3 rfl 2 (by decide) k_146 rfl d_X3_sendQueued_25 ?_
    refine V_iload_n hc d_X3_sendQueued_28 rfl 0 rfl ?_
    refine V_aload_n hc d_X3_sendQueued_29 rfl 1 rfl ?_
    refine V_get (v := .ref (a 13)) hc uin_X3 3 eX_3 rfl 8 (by decide) k_153 rfl d_X3_sendQueued_30 ?_
    refine V_iload_n hc d_X3_sendQueued_33 rfl 2 rfl ?_
    obtain ⟨hi, hw⟩ := hw
    refine V_iald (x := g_A z 3 (x1 : Int32).toNatClampNeg) hc 13 0 eX_13 rfl hi rfl d_X3_sendQueued_34 ?_
    refine V_aload_n hc d_X3_sendQueued_35 rfl 1 rfl ?_
    refine V_get (v := .ref (a 14)) hc uin_X3 3 eX_3 rfl 9 (by decide) k_154 rfl d_X3_sendQueued_36 ?_
    refine V_iload_n hc d_X3_sendQueued_39 rfl 2 rfl ?_
    obtain ⟨hi, hw⟩ := hw
    refine V_iald (x := g_A z 4 (x1 : Int32).toNatClampNeg) hc 14 0 eX_14 rfl hi rfl d_X3_sendQueued_40 ?_
    refine V_callVv (As := [.int 0, .int (g_A z 3 (x1 : Int32).toNatClampNeg), .int (g_A z 4 (x1 : Int32).toNatClampNeg)]) (st := []) hc TS_good NS_nest (fun _ h => h) (c_X2_send l K cA D a 0 (g_A z 3 (x1 : Int32).toNatClampNeg) (g_A z 4 (x1 : Int32).toNatClampNeg) z) k_430 k_5 k_433 k_431 k_432 2 eX_2 rfl q_X2_send (by decide) (Nat.zero_le _) (Nat.zero_le _) rfl (Nat.le_of_ble_eq_true rfl) d_X3_sendQueued_41 hw (fun r1 u2 hw => ?_)
    try dsimp only at hw
    refine V_aload_n hc d_X3_sendQueued_44 rfl 1 rfl ?_
    refine V_get (v := .ref (a 15)) hc uin_X3 3 eX_3 rfl 10 (by decide) k_155 rfl d_X3_sendQueued_45 ?_
    refine V_iload_n hc d_X3_sendQueued_48 rfl 2 rfl ?_
    refine V_aload_n hc d_X3_sendQueued_49 rfl 1 rfl ?_
    refine V_get (v := .int (g_I u2 9)) hc uin_X3 3 eX_3 rfl 12 (by decide) k_158 rfl d_X3_sendQueued_50 ?_
    obtain ⟨hi, hw⟩ := hw
    refine V_iast hc 15 0 eX_15 rfl hi sX_15 d_X3_sendQueued_53 ?_
    exact V_vret hc NS_nest hr hw d_X3_sendQueued_54
  · replace hw := hw.2 h
    refine V_iconst (v := 1) hc d_X3_sendQueued_18 (by decide) ?_
    refine V_goto (tgt := 23) hc d_X3_sendQueued_19 rfl ?_
    refine V_istore_n hc [(2, .int 1), (0, .ref (a 3)), (1, .int x1)] d_X3_sendQueued_23 rfl (by decide) rfl ?_
    refine V_aload_n hc d_X3_sendQueued_24 rfl 1 rfl ?_
    refine V_get (v := .ref (a 2)) hc uin_X3 3 eX_3 rfl 2 (by decide) k_146 rfl d_X3_sendQueued_25 ?_
    refine V_iload_n hc d_X3_sendQueued_28 rfl 0 rfl ?_
    refine V_aload_n hc d_X3_sendQueued_29 rfl 1 rfl ?_
    refine V_get (v := .ref (a 13)) hc uin_X3 3 eX_3 rfl 8 (by decide) k_153 rfl d_X3_sendQueued_30 ?_
    refine V_iload_n hc d_X3_sendQueued_33 rfl 2 rfl ?_
    obtain ⟨hi, hw⟩ := hw
    refine V_iald (x := g_A z 3 (x1 : Int32).toNatClampNeg) hc 13 0 eX_13 rfl hi rfl d_X3_sendQueued_34 ?_
    refine V_aload_n hc d_X3_sendQueued_35 rfl 1 rfl ?_
    refine V_get (v := .ref (a 14)) hc uin_X3 3 eX_3 rfl 9 (by decide) k_154 rfl d_X3_sendQueued_36 ?_
    refine V_iload_n hc d_X3_sendQueued_39 rfl 2 rfl ?_
    obtain ⟨hi, hw⟩ := hw
    refine V_iald (x := g_A z 4 (x1 : Int32).toNatClampNeg) hc 14 0 eX_14 rfl hi rfl d_X3_sendQueued_40 ?_
    refine V_callVv (As := [.int 1, .int (g_A z 3 (x1 : Int32).toNatClampNeg), .int (g_A z 4 (x1 : Int32).toNatClampNeg)]) (st := []) hc TS_good NS_nest (fun _ h => h) (c_X2_send l K cA D a 1 (g_A z 3 (x1 : Int32).toNatClampNeg) (g_A z 4 (x1 : Int32).toNatClampNeg) z) k_430 k_5 k_433 k_431 k_432 2 eX_2 rfl q_X2_send (by decide) (Nat.zero_le _) (Nat.zero_le _) rfl (Nat.le_of_ble_eq_true rfl) d_X3_sendQueued_41 hw (fun r3 u4 hw => ?_)
    try dsimp only at hw
    refine V_aload_n hc d_X3_sendQueued_44 rfl 1 rfl ?_
    refine V_get (v := .ref (a 15)) hc uin_X3 3 eX_3 rfl 10 (by decide) k_155 rfl d_X3_sendQueued_45 ?_
    refine V_iload_n hc d_X3_sendQueued_48 rfl 2 rfl ?_
    refine V_aload_n hc d_X3_sendQueued_49 rfl 1 rfl ?_
    refine V_get (v := .int (g_I u4 9)) hc uin_X3 3 eX_3 rfl 12 (by decide) k_158 rfl d_X3_sendQueued_50 ?_
    obtain ⟨hi, hw⟩ := hw
    refine V_iast hc 15 0 eX_15 rfl hi sX_15 d_X3_sendQueued_53 ?_
    exact V_vret hc NS_nest hr hw d_X3_sendQueued_54
def w_X3_emit (K : Nat)  (z : St) (Q : Unit → St → Prop) : Prop :=
  (vp_in (g_I z 8) 4 ∧ (vp_in (g_I z 8) 4 ∧ w_X3_sendQueued K ((g_I z 8 + 1) - 1) (s_I (s_I (s_A (s_A z 3 (g_I z 8 : Int32).toNatClampNeg (g_I z 12)) 4 (g_I z 8 : Int32).toNatClampNeg (g_I z 11)) 11 (g_I z 12)) 8 (g_I z 8 + 1)) (fun r1 u2 => Q () u2)))
set_option maxHeartbeats 4000000 in
set_option maxRecDepth 100000 in
theorem c_X3_emit (l : Launch) (K : Nat) (cA : Nat → ClassId) (D : va_G) (a : Nat → Nat)  (z : St) : Ct l NS CL D (tyX cA) 23 a (WX K cA a) mkV y_X3_emit (.code y_X3_emit b_X3_emit 1 none :: TS) { frames := 3, cells := 0, slots := 0, locals := 70 } [.ref (a 3)] z (w_X3_emit K  z) := by
  refine Ct.of (by decide) (Nat.le_of_ble_eq_true rfl) adX ?_
  intro Q p e s m args below meth c hc hr hw
  unfold w_X3_emit at hw
  refine V_st _ [(0, .ref (a 3))] _ rfl rfl rfl ?_
  refine V_aload_n hc d_X3_emit_0 rfl 0 rfl ?_
  refine V_get (v := .ref (a 13)) hc uin_X3 3 eX_3 rfl 8 (by decide) k_153 rfl d_X3_emit_1 ?_
  refine V_aload_n hc d_X3_emit_4 rfl 0 rfl ?_
  refine V_get (v := .int (g_I z 8)) hc uin_X3 3 eX_3 rfl 11 (by decide) k_156 rfl d_X3_emit_5 ?_
  refine V_aload_n hc d_X3_emit_8 rfl 0 rfl ?_
  refine V_get (v := .int (g_I z 12)) hc uin_X3 3 eX_3 rfl 15 (by decide) k_161 rfl d_X3_emit_9 ?_
  obtain ⟨hi, hw⟩ := hw
  refine V_iast hc 13 0 eX_13 rfl hi sX_13 d_X3_emit_12 ?_
  refine V_aload_n hc d_X3_emit_13 rfl 0 rfl ?_
  refine V_get (v := .ref (a 14)) hc uin_X3 3 eX_3 rfl 9 (by decide) k_154 rfl d_X3_emit_14 ?_
  refine V_aload_n hc d_X3_emit_17 rfl 0 rfl ?_
  refine V_get (v := .int (g_I z 8)) hc uin_X3 3 eX_3 rfl 11 (by decide) k_156 rfl d_X3_emit_18 ?_
  refine V_aload_n hc d_X3_emit_21 rfl 0 rfl ?_
  refine V_get (v := .int (g_I z 11)) hc uin_X3 3 eX_3 rfl 14 (by decide) k_160 rfl d_X3_emit_22 ?_
  obtain ⟨hi, hw⟩ := hw
  refine V_iast hc 14 0 eX_14 rfl hi sX_14 d_X3_emit_25 ?_
  refine V_aload_n hc d_X3_emit_26 rfl 0 rfl ?_
  refine V_aload_n hc d_X3_emit_27 rfl 0 rfl ?_
  refine V_get (v := .int (g_I z 12)) hc uin_X3 3 eX_3 rfl 15 (by decide) k_161 rfl d_X3_emit_28 ?_
  refine V_put (ty := .int) hc uin_X3 3 eX_3 rfl 14 (by decide) t_X3 t_X3_ok n_X3 k_160 rfl (by decide +kernel) rfl rfl (Nat.le_of_ble_eq_true rfl) iX_11 d_X3_emit_31 ?_
  refine V_aload_n hc d_X3_emit_34 rfl 0 rfl ?_
  refine V_dup hc d_X3_emit_35 rfl ?_
  refine V_get (v := .int (g_I z 8)) hc uin_X3 3 eX_3 rfl 11 (by decide) k_156 rfl d_X3_emit_36 ?_
  refine V_iconst (v := 1) hc d_X3_emit_39 (by decide) ?_
  refine V_iadd hc d_X3_emit_40 rfl ?_
  refine V_put (ty := .int) hc uin_X3 3 eX_3 rfl 11 (by decide) t_X3 t_X3_ok n_X3 k_156 rfl (by decide +kernel) rfl rfl (Nat.le_of_ble_eq_true rfl) iX_8 d_X3_emit_41 ?_
  refine V_aload_n hc d_X3_emit_44 rfl 0 rfl ?_
  refine V_aload_n hc d_X3_emit_45 rfl 0 rfl ?_
  refine V_get (v := .int (g_I z 8 + 1)) hc uin_X3 3 eX_3 rfl 11 (by decide) k_156 rfl d_X3_emit_46 ?_
  refine V_iconst (v := 1) hc d_X3_emit_49 (by decide) ?_
  refine V_isub hc d_X3_emit_50 rfl ?_
  refine V_callVv (As := [.int ((g_I z 8 + 1) - 1)]) (st := []) hc TS_good NS_nest (fun _ h => h) (c_X3_sendQueued l K cA D a ((g_I z 8 + 1) - 1) (s_I (s_I (s_A (s_A z 3 (g_I z 8 : Int32).toNatClampNeg (g_I z 12)) 4 (g_I z 8 : Int32).toNatClampNeg (g_I z 11)) 11 (g_I z 12)) 8 (g_I z 8 + 1))) k_426 k_6 k_429 k_428 kp_X3_sendQueued 3 eX_3 rfl q_X3_sendQueued (by decide) (Nat.zero_le _) (Nat.zero_le _) rfl (Nat.le_of_ble_eq_true rfl) d_X3_emit_51 hw (fun r1 u2 hw => ?_)
  try dsimp only at hw
  exact V_vret hc NS_nest hr hw d_X3_emit_54
def w_X6_isLowBefore (K : Nat) (x1 : Int32) (z : St) (Q : Int32 → St → Prop) : Prop :=
  ((g_I z 20 = 0 → Q 0 z) ∧ (¬ g_I z 20 = 0 → ((x1 ≤ g_I z 21 → Q 0 z) ∧ (¬ x1 ≤ g_I z 21 → Q 1 z))))
set_option maxHeartbeats 4000000 in
set_option maxRecDepth 100000 in
theorem c_X6_isLowBefore (l : Launch) (K : Nat) (cA : Nat → ClassId) (D : va_G) (a : Nat → Nat) (x1 : Int32) (z : St) : Ct l NS CL D (tyX cA) 23 a (WX K cA a) mkI y_X6_isLowBefore (.code y_X6_isLowBefore b_X6_isLowBefore 2 (some .boolean) :: TS) { frames := 0, cells := 0, slots := 0, locals := 0 } [.ref (a 6), .int x1] z (w_X6_isLowBefore K x1 z) := by
  refine Ct.of (by decide) (Nat.le_of_ble_eq_true rfl) adX ?_
  intro Q p e s m args below meth c hc hr hw
  unfold w_X6_isLowBefore at hw
  refine V_st _ [(0, .ref (a 6)), (1, .int x1)] _ rfl rfl rfl ?_
  refine V_aload_n hc d_X6_isLowBefore_0 rfl 0 rfl ?_
  refine V_get (v := .int (g_I z 20)) hc uin_X6 6 eX_6 rfl 2 (by decide) k_128 rfl d_X6_isLowBefore_1 ?_
  refine V_if_eq (tgt := 19) hc d_X6_isLowBefore_4 rfl (fun h => ?_) (fun h => ?_)
  · replace hw := hw.1 h
    refine V_iconst (v := 0) hc d_X6_isLowBefore_19 (by decide) ?_
    exact V_zret hc NS_nest hr (by decide) hw d_X6_isLowBefore_20
  · replace hw := hw.2 h
    refine V_aload_n hc d_X6_isLowBefore_7 rfl 0 rfl ?_
    refine V_get (v := .int (g_I z 21)) hc uin_X6 6 eX_6 rfl 3 (by decide) k_130 rfl d_X6_isLowBefore_8 ?_
    refine V_iload_n hc d_X6_isLowBefore_11 rfl 1 rfl ?_
    refine V_icmp_ge (tgt := 19) hc d_X6_isLowBefore_12 rfl (fun h => ?_) (fun h => ?_)
    · replace hw := hw.1 h
      refine V_iconst (v := 0) hc d_X6_isLowBefore_19 (by decide) ?_
      exact V_zret hc NS_nest hr (by decide) hw d_X6_isLowBefore_20
    · replace hw := hw.2 h
      refine V_iconst (v := 1) hc d_X6_isLowBefore_15 (by decide) ?_
      refine V_goto (tgt := 20) hc d_X6_isLowBefore_16 rfl ?_
      exact V_zret hc NS_nest hr (by decide) hw d_X6_isLowBefore_20
def w_X5_isChangeOf (K : Nat) (x1 : Int32) (x2 : Int32) (z : St) (Q : Int32 → St → Prop) : Prop :=
  (vp_in x1 160 ∧ ((¬ (g_A z 6 (x1 : Int32).toNatClampNeg) = 0 → Q 0 z) ∧ ((g_A z 6 (x1 : Int32).toNatClampNeg) = 0 → (vp_in x1 160 ∧ ((¬ (g_A z 7 (x1 : Int32).toNatClampNeg) = x2 → Q 0 z) ∧ ((g_A z 7 (x1 : Int32).toNatClampNeg) = x2 → Q 1 z))))))
set_option maxHeartbeats 4000000 in
set_option maxRecDepth 100000 in
theorem c_X5_isChangeOf (l : Launch) (K : Nat) (cA : Nat → ClassId) (D : va_G) (a : Nat → Nat) (x1 : Int32) (x2 : Int32) (z : St) : Ct l NS CL D (tyX cA) 23 a (WX K cA a) mkI y_X5_isChangeOf (.code y_X5_isChangeOf b_X5_isChangeOf 3 (some .boolean) :: TS) { frames := 0, cells := 0, slots := 0, locals := 0 } [.ref (a 5), .int x1, .int x2] z (w_X5_isChangeOf K x1 x2 z) := by
  refine Ct.of (by decide) (Nat.le_of_ble_eq_true rfl) adX ?_
  intro Q p e s m args below meth c hc hr hw
  unfold w_X5_isChangeOf at hw
  refine V_st _ [(0, .ref (a 5)), (1, .int x1), (2, .int x2)] _ rfl rfl rfl ?_
  refine V_aload_n hc d_X5_isChangeOf_0 rfl 0 rfl ?_
  refine V_get (v := .ref (a 17)) hc uin_X5 5 eX_5 rfl 0 (by decide) k_35 rfl d_X5_isChangeOf_1 ?_
  refine V_iload_n hc d_X5_isChangeOf_4 rfl 1 rfl ?_
  obtain ⟨hi, hw⟩ := hw
  refine V_iald (x := g_A z 6 (x1 : Int32).toNatClampNeg) hc 17 0 eX_17 rfl hi rfl d_X5_isChangeOf_5 ?_
  refine V_if_ne (tgt := 23) hc d_X5_isChangeOf_6 rfl (fun h => ?_) (fun h => ?_)
  · replace hw := hw.1 h
    refine V_iconst (v := 0) hc d_X5_isChangeOf_23 (by decide) ?_
    exact V_zret hc NS_nest hr (by decide) hw d_X5_isChangeOf_24
  · replace hw := hw.2 h
    refine V_aload_n hc d_X5_isChangeOf_9 rfl 0 rfl ?_
    refine V_get (v := .ref (a 18)) hc uin_X5 5 eX_5 rfl 1 (by decide) k_38 rfl d_X5_isChangeOf_10 ?_
    refine V_iload_n hc d_X5_isChangeOf_13 rfl 1 rfl ?_
    obtain ⟨hi, hw⟩ := hw
    refine V_iald (x := g_A z 7 (x1 : Int32).toNatClampNeg) hc 18 0 eX_18 rfl hi rfl d_X5_isChangeOf_14 ?_
    refine V_iload_n hc d_X5_isChangeOf_15 rfl 2 rfl ?_
    refine V_icmp_ne (tgt := 23) hc d_X5_isChangeOf_16 rfl (fun h => ?_) (fun h => ?_)
    · replace hw := hw.1 h
      refine V_iconst (v := 0) hc d_X5_isChangeOf_23 (by decide) ?_
      exact V_zret hc NS_nest hr (by decide) hw d_X5_isChangeOf_24
    · replace hw := hw.2 h
      refine V_iconst (v := 1) hc d_X5_isChangeOf_19 (by decide) ?_
      refine V_goto (tgt := 24) hc d_X5_isChangeOf_20 rfl ?_
      exact V_zret hc NS_nest hr (by decide) hw d_X5_isChangeOf_24
def w_X3_strikeKeysOf_17 (K : Nat) (Q : Unit → St → Prop) : Nat → Int32 → Int32 → St → Prop
  | 0, _, _, _ => False
  | n + 1, v1, v2, z => ((g_I z 12 ≤ v2 → Q () z) ∧ (¬ g_I z 12 ≤ v2 → w_X5_isChangeOf K v2 v1 z (fun r3 u4 => ((r3 = 0 → w_X3_strikeKeysOf_17 K Q n v1 (v2 + 1) u4) ∧ (¬ r3 = 0 → (vp_in v2 160 ∧ (vp_in (g_A u4 8 (v2 : Int32).toNatClampNeg) K ∧ w_X3_strikeKeysOf_17 K Q n v1 (v2 + 1) (s_A u4 9 ((g_A u4 8 (v2 : Int32).toNatClampNeg) : Int32).toNatClampNeg 1))))))))
def w_X3_strikeKeysOf (K : Nat) (x1 : Int32) (z : St) (Q : Unit → St → Prop) : Prop :=
  w_X6_isLowBefore K (g_I z 12) z (fun r1 u2 => ((¬ r1 = 0 → (∃ n9, w_X3_strikeKeysOf_17 K Q n9 x1 0 u2)) ∧ (r1 = 0 → Q () u2)))
set_option maxHeartbeats 4000000 in
set_option maxRecDepth 100000 in
theorem l_X3_strikeKeysOf_17 (l : Launch) (K : Nat) (cA : Nat → ClassId) (D : va_G) (a : Nat → Nat) (Q : Unit → St → Prop) (p : Program) (e : Env) (s : State) (m : MethodId) (args : Array Value) (below : List Frame) (meth : Method) (c : Code) (hc : Cx TS NS CL D (tyX cA) p s m args meth c b_X3_strikeKeysOf 3 y_X3_strikeKeysOf.cls) (hr : meth.sig.returnType = none) : ∀ (n : Nat) (v1 : Int32) (v2 : Int32) (z : St), w_X3_strikeKeysOf_17 K Q n v1 v2 z → V CL p l e { frames := 1, cells := 0, slots := 0, locals := 22 } s m args below meth c 3 D (AX 23 a s.heap.size) 0 0 (MQ below (Qg NS CL D (tyX cA) (WX K cA a) (AX 23 a s.heap.size) mkV Q) args s 0 0 (AX 23 a s.heap.size)) (WX K cA a z) 17 [(0, .ref (a 3)), (1, .int v1), (2, .int v2)] [] := by
  intro n
  induction n with
  | zero =>
    intro v1 v2 z hw
    exact hw.elim
  | succ n ih =>
    intro v1 v2 z hw
    unfold w_X3_strikeKeysOf_17 at hw
    refine V_iload_n hc d_X3_strikeKeysOf_17 rfl 2 rfl ?_
    refine V_aload_n hc d_X3_strikeKeysOf_18 rfl 0 rfl ?_
    refine V_get (v := .int (g_I z 12)) hc uin_X3 3 eX_3 rfl 15 (by decide) k_161 rfl d_X3_strikeKeysOf_19 ?_
    refine V_icmp_ge (tgt := 61) hc d_X3_strikeKeysOf_22 rfl (fun h => ?_) (fun h => ?_)
    · replace hw := hw.1 h
      exact V_vret hc NS_nest hr hw d_X3_strikeKeysOf_61
    · replace hw := hw.2 h
      refine V_aload_n hc d_X3_strikeKeysOf_25 rfl 0 rfl ?_
      refine V_get (v := .ref (a 5)) hc uin_X3 3 eX_3 rfl 0 (by decide) k_144 rfl d_X3_strikeKeysOf_26 ?_
      refine V_iload_n hc d_X3_strikeKeysOf_29 rfl 2 rfl ?_
      refine V_iload_n hc d_X3_strikeKeysOf_30 rfl 1 rfl ?_
      refine V_callVi (As := [.int v2, .int v1]) (st := []) hc TS_good NS_nest (fun _ h => h) (c_X5_isChangeOf l K cA D a v2 v1 z) k_446 k_3 k_449 k_447 k_448 5 eX_5 rfl q_X5_isChangeOf (by decide) (Nat.zero_le _) (Nat.zero_le _) rfl (Nat.le_of_ble_eq_true rfl) d_X3_strikeKeysOf_31 hw (fun r3 u4 hw => ?_)
      try dsimp only at hw
      refine V_if_eq (tgt := 55) hc d_X3_strikeKeysOf_34 rfl (fun h => ?_) (fun h => ?_)
      · replace hw := hw.1 h
        refine V_iinc (v := (v2 + 1)) hc [(2, .int (v2 + 1)), (0, .ref (a 3)), (1, .int v1)] d_X3_strikeKeysOf_55 2 rfl (by rfl) (by decide) rfl ?_
        refine V_goto (tgt := 17) hc d_X3_strikeKeysOf_58 rfl ?_
        refine V_sub [1, 2, 0] [(0, .ref (a 3)), (1, .int v1), (2, .int (v2 + 1))] rfl ?_
        exact ih v1 (v2 + 1) u4 hw
      · replace hw := hw.2 h
        refine V_aload_n hc d_X3_strikeKeysOf_37 rfl 0 rfl ?_
        refine V_get (v := .ref (a 6)) hc uin_X3 3 eX_3 rfl 6 (by decide) k_150 rfl d_X3_strikeKeysOf_38 ?_
        refine V_getN (v := .ref (a 22)) hc uin_X6 6 eX_6 rfl 1 (by decide) k_127 rfl d_X3_strikeKeysOf_41 ?_
        refine V_aload_n hc d_X3_strikeKeysOf_44 rfl 0 rfl ?_
        refine V_get (v := .ref (a 5)) hc uin_X3 3 eX_3 rfl 0 (by decide) k_144 rfl d_X3_strikeKeysOf_45 ?_
        refine V_getN (v := .ref (a 19)) hc uin_X5 5 eX_5 rfl 2 (by decide) k_43 rfl d_X3_strikeKeysOf_48 ?_
        refine V_iload_n hc d_X3_strikeKeysOf_51 rfl 2 rfl ?_
        obtain ⟨hi, hw⟩ := hw
        refine V_iald (x := g_A u4 8 (v2 : Int32).toNatClampNeg) hc 19 0 eX_19 rfl hi rfl d_X3_strikeKeysOf_52 ?_
        refine V_iconst (v := 1) hc d_X3_strikeKeysOf_53 (by decide) ?_
        obtain ⟨hi, hw⟩ := hw
        refine V_zast hc 22 2 eX_22 rfl hi bX_22_1 d_X3_strikeKeysOf_54 ?_
        refine V_iinc (v := (v2 + 1)) hc [(2, .int (v2 + 1)), (0, .ref (a 3)), (1, .int v1)] d_X3_strikeKeysOf_55 2 rfl (by rfl) (by decide) rfl ?_
        refine V_goto (tgt := 17) hc d_X3_strikeKeysOf_58 rfl ?_
        refine V_sub [1, 2, 0] [(0, .ref (a 3)), (1, .int v1), (2, .int (v2 + 1))] rfl ?_
        exact ih v1 (v2 + 1) (s_A u4 9 ((g_A u4 8 (v2 : Int32).toNatClampNeg) : Int32).toNatClampNeg 1) hw
set_option maxHeartbeats 4000000 in
set_option maxRecDepth 100000 in
theorem c_X3_strikeKeysOf (l : Launch) (K : Nat) (cA : Nat → ClassId) (D : va_G) (a : Nat → Nat) (x1 : Int32) (z : St) : Ct l NS CL D (tyX cA) 23 a (WX K cA a) mkV y_X3_strikeKeysOf (.code y_X3_strikeKeysOf b_X3_strikeKeysOf 3 none :: TS) { frames := 1, cells := 0, slots := 0, locals := 22 } [.ref (a 3), .int x1] z (w_X3_strikeKeysOf K x1 z) := by
  refine Ct.of (by decide) (Nat.le_of_ble_eq_true rfl) adX ?_
  intro Q p e s m args below meth c hc hr hw
  unfold w_X3_strikeKeysOf at hw
  refine V_st _ [(0, .ref (a 3)), (1, .int x1)] _ rfl rfl rfl ?_
  refine V_aload_n hc d_X3_strikeKeysOf_0 rfl 0 rfl ?_
  refine V_get (v := .ref (a 6)) hc uin_X3 3 eX_3 rfl 6 (by decide) k_150 rfl d_X3_strikeKeysOf_1 ?_
  refine V_aload_n hc d_X3_strikeKeysOf_4 rfl 0 rfl ?_
  refine V_get (v := .int (g_I z 12)) hc uin_X3 3 eX_3 rfl 15 (by decide) k_161 rfl d_X3_strikeKeysOf_5 ?_
  refine V_callVi (As := [.int (g_I z 12)]) (st := []) hc TS_good NS_nest (fun _ h => h) (c_X6_isLowBefore l K cA D a (g_I z 12) z) k_442 k_7 k_445 k_443 k_444 6 eX_6 rfl q_X6_isLowBefore (by decide) (Nat.zero_le _) (Nat.zero_le _) rfl (Nat.le_of_ble_eq_true rfl) d_X3_strikeKeysOf_8 hw (fun r1 u2 hw => ?_)
  try dsimp only at hw
  refine V_if_ne (tgt := 15) hc d_X3_strikeKeysOf_11 rfl (fun h => ?_) (fun h => ?_)
  · replace hw := hw.1 h
    refine V_iconst (v := 0) hc d_X3_strikeKeysOf_15 (by decide) ?_
    refine V_istore_n hc [(2, .int 0), (0, .ref (a 3)), (1, .int x1)] d_X3_strikeKeysOf_16 rfl (by decide) rfl ?_
    obtain ⟨n9, hw⟩ := hw
    refine V_sub [1, 2, 0] [(0, .ref (a 3)), (1, .int x1), (2, .int 0)] rfl ?_
    exact l_X3_strikeKeysOf_17 l K cA D a Q p e s m args below meth c hc hr n9 x1 0 u2 hw
  · replace hw := hw.2 h
    exact V_vret hc NS_nest hr hw d_X3_strikeKeysOf_14
def w_X6_rowToBear (K : Nat) (x1 : Int32) (z : St) (Q : Int64 → St → Prop) : Prop :=
  (vp_in x1 K ∧ (((g_A z 9 (x1 : Int32).toNatClampNeg) = 0 → (vp_in x1 K ∧ Q (g_L z 5 (x1 : Int32).toNatClampNeg) z)) ∧ (¬ (g_A z 9 (x1 : Int32).toNatClampNeg) = 0 → Q (-1) z)))
set_option maxHeartbeats 4000000 in
set_option maxRecDepth 100000 in
theorem c_X6_rowToBear (l : Launch) (K : Nat) (cA : Nat → ClassId) (D : va_G) (a : Nat → Nat) (x1 : Int32) (z : St) : Ct l NS CL D (tyX cA) 23 a (WX K cA a) mkL y_X6_rowToBear (.code y_X6_rowToBear b_X6_rowToBear 2 (some .long) :: TS) { frames := 0, cells := 0, slots := 0, locals := 0 } [.ref (a 6), .int x1] z (w_X6_rowToBear K x1 z) := by
  refine Ct.of (by decide) (Nat.le_of_ble_eq_true rfl) adX ?_
  intro Q p e s m args below meth c hc hr hw
  unfold w_X6_rowToBear at hw
  refine V_st _ [(0, .ref (a 6)), (1, .int x1)] _ rfl rfl rfl ?_
  refine V_aload_n hc d_X6_rowToBear_0 rfl 0 rfl ?_
  refine V_get (v := .ref (a 22)) hc uin_X6 6 eX_6 rfl 1 (by decide) k_126 rfl d_X6_rowToBear_1 ?_
  refine V_iload_n hc d_X6_rowToBear_4 rfl 1 rfl ?_
  obtain ⟨hi, hw⟩ := hw
  refine V_zald (x := g_A z 9 (x1 : Int32).toNatClampNeg) hc 22 2 eX_22 rfl hi rfl d_X6_rowToBear_5 ?_
  refine V_if_eq (tgt := 15) hc d_X6_rowToBear_6 rfl (fun h => ?_) (fun h => ?_)
  · replace hw := hw.1 h
    refine V_aload_n hc d_X6_rowToBear_15 rfl 0 rfl ?_
    refine V_get (v := .ref (a 21)) hc uin_X6 6 eX_6 rfl 0 (by decide) k_125 rfl d_X6_rowToBear_16 ?_
    refine V_iload_n hc d_X6_rowToBear_19 rfl 1 rfl ?_
    obtain ⟨hi, hw⟩ := hw
    refine V_lald (x := g_L z 5 (x1 : Int32).toNatClampNeg) hc 21 1 eX_21 rfl hi rfl d_X6_rowToBear_20 ?_
    exact V_lret hc NS_nest hr hw d_X6_rowToBear_21
  · replace hw := hw.2 h
    refine V_ldc2 (v := (-1)) hc k_458 d_X6_rowToBear_9 ?_
    refine V_goto (tgt := 21) hc d_X6_rowToBear_12 rfl ?_
    exact V_lret hc NS_nest hr hw d_X6_rowToBear_21
def w_X3_bearChunk_5 (K : Nat) (Q : Unit → St → Prop) : Nat → Int32 → St → Prop
  | 0, _, _ => False
  | n + 1, v1, z => w_X3_afterChunk K  z (fun r1 u2 => ((r1 ≤ v1 → w_X6_stop K  u2 (fun r3 u4 => Q () (s_I u4 13 (g_I u4 13 + g_I u4 6)))) ∧ (¬ r1 ≤ v1 → w_X6_rowToBear K v1 u2 (fun r5 u6 => (vp_in v1 K ∧ w_X3_bearChunk_5 K Q n (v1 + 1) (s_L u6 2 (v1 : Int32).toNatClampNeg r5))))))
def w_X3_bearChunk (K : Nat)  (z : St) (Q : Unit → St → Prop) : Prop :=
  (∃ n9, w_X3_bearChunk_5 K Q n9 (g_I z 13) z)
set_option maxHeartbeats 4000000 in
set_option maxRecDepth 100000 in
theorem l_X3_bearChunk_5 (l : Launch) (K : Nat) (cA : Nat → ClassId) (D : va_G) (a : Nat → Nat) (Q : Unit → St → Prop) (p : Program) (e : Env) (s : State) (m : MethodId) (args : Array Value) (below : List Frame) (meth : Method) (c : Code) (hc : Cx TS NS CL D (tyX cA) p s m args meth c b_X3_bearChunk 2 y_X3_bearChunk.cls) (hr : meth.sig.returnType = none) : ∀ (n : Nat) (v1 : Int32) (z : St), w_X3_bearChunk_5 K Q n v1 z → V CL p l e { frames := 2, cells := 0, slots := 0, locals := 41 } s m args below meth c 2 D (AX 23 a s.heap.size) 0 0 (MQ below (Qg NS CL D (tyX cA) (WX K cA a) (AX 23 a s.heap.size) mkV Q) args s 0 0 (AX 23 a s.heap.size)) (WX K cA a z) 5 [(0, .ref (a 3)), (1, .int v1)] [] := by
  intro n
  induction n with
  | zero =>
    intro v1 z hw
    exact hw.elim
  | succ n ih =>
    intro v1 z hw
    unfold w_X3_bearChunk_5 at hw
    refine V_iload_n hc d_X3_bearChunk_5 rfl 1 rfl ?_
    refine V_aload_n hc d_X3_bearChunk_6 rfl 0 rfl ?_
    refine V_callVi (As := []) (st := [.int v1]) hc TS_good NS_nest (fun _ h => h) (c_X3_afterChunk l K cA D a  z) k_384 k_6 k_387 k_386 kp_X3_afterChunk 3 eX_3 rfl q_X3_afterChunk (by decide) (Nat.zero_le _) (Nat.zero_le _) rfl (Nat.le_of_ble_eq_true rfl) d_X3_bearChunk_7 hw (fun r1 u2 hw => ?_)
    try dsimp only at hw
    refine V_icmp_ge (tgt := 33) hc d_X3_bearChunk_10 rfl (fun h => ?_) (fun h => ?_)
    · replace hw := hw.1 h
      refine V_aload_n hc d_X3_bearChunk_33 rfl 0 rfl ?_
      refine V_get (v := .ref (a 6)) hc uin_X3 3 eX_3 rfl 6 (by decide) k_150 rfl d_X3_bearChunk_34 ?_
      refine V_callVv (As := []) (st := []) hc TS_good NS_nest (fun _ h => h) (c_X6_stop l K cA D a  u2) k_361 k_7 k_364 k_362 k_363 6 eX_6 rfl q_X6_stop (by decide) (Nat.zero_le _) (Nat.zero_le _) rfl (Nat.le_of_ble_eq_true rfl) d_X3_bearChunk_37 hw (fun r3 u4 hw => ?_)
      try dsimp only at hw
      refine V_aload_n hc d_X3_bearChunk_40 rfl 0 rfl ?_
      refine V_dup hc d_X3_bearChunk_41 rfl ?_
      refine V_get (v := .int (g_I u4 13)) hc uin_X3 3 eX_3 rfl 16 (by decide) k_162 rfl d_X3_bearChunk_42 ?_
      refine V_aload_n hc d_X3_bearChunk_45 rfl 0 rfl ?_
      refine V_get (v := .int (g_I u4 6)) hc uin_X3 3 eX_3 rfl 4 (by decide) k_148 rfl d_X3_bearChunk_46 ?_
      refine V_iadd hc d_X3_bearChunk_49 rfl ?_
      refine V_put (ty := .int) hc uin_X3 3 eX_3 rfl 16 (by decide) t_X3 t_X3_ok n_X3 k_162 rfl (by decide +kernel) rfl rfl (Nat.le_of_ble_eq_true rfl) iX_13 d_X3_bearChunk_50 ?_
      exact V_vret hc NS_nest hr hw d_X3_bearChunk_53
    · replace hw := hw.2 h
      refine V_aload_n hc d_X3_bearChunk_13 rfl 0 rfl ?_
      refine V_get (v := .ref (a 12)) hc uin_X3 3 eX_3 rfl 7 (by decide) k_151 rfl d_X3_bearChunk_14 ?_
      refine V_iload_n hc d_X3_bearChunk_17 rfl 1 rfl ?_
      refine V_aload_n hc d_X3_bearChunk_18 rfl 0 rfl ?_
      refine V_get (v := .ref (a 6)) hc uin_X3 3 eX_3 rfl 6 (by decide) k_150 rfl d_X3_bearChunk_19 ?_
      refine V_iload_n hc d_X3_bearChunk_22 rfl 1 rfl ?_
      refine V_callVl (As := [.int v1]) (st := [.int v1, .ref (a 12)]) hc TS_good NS_nest (fun _ h => h) (c_X6_rowToBear l K cA D a v1 u2) k_454 k_7 k_457 k_455 k_456 6 eX_6 rfl q_X6_rowToBear (by decide) (Nat.zero_le _) (Nat.zero_le _) rfl (Nat.le_of_ble_eq_true rfl) d_X3_bearChunk_23 hw (fun r5 u6 hw => ?_)
      try dsimp only at hw
      obtain ⟨hi, hw⟩ := hw
      refine V_last hc 12 1 eX_12 rfl hi sX_12 d_X3_bearChunk_26 ?_
      refine V_iinc (v := (v1 + 1)) hc [(1, .int (v1 + 1)), (0, .ref (a 3))] d_X3_bearChunk_27 1 rfl (by rfl) (by decide) rfl ?_
      refine V_goto (tgt := 5) hc d_X3_bearChunk_30 rfl ?_
      refine V_sub [1, 0] [(0, .ref (a 3)), (1, .int (v1 + 1))] rfl ?_
      exact ih (v1 + 1) (s_L u6 2 (v1 : Int32).toNatClampNeg r5) hw
set_option maxHeartbeats 4000000 in
set_option maxRecDepth 100000 in
theorem c_X3_bearChunk (l : Launch) (K : Nat) (cA : Nat → ClassId) (D : va_G) (a : Nat → Nat)  (z : St) : Ct l NS CL D (tyX cA) 23 a (WX K cA a) mkV y_X3_bearChunk (.code y_X3_bearChunk b_X3_bearChunk 2 none :: TS) { frames := 2, cells := 0, slots := 0, locals := 41 } [.ref (a 3)] z (w_X3_bearChunk K  z) := by
  refine Ct.of (by decide) (Nat.le_of_ble_eq_true rfl) adX ?_
  intro Q p e s m args below meth c hc hr hw
  unfold w_X3_bearChunk at hw
  refine V_st _ [(0, .ref (a 3))] _ rfl rfl rfl ?_
  refine V_aload_n hc d_X3_bearChunk_0 rfl 0 rfl ?_
  refine V_get (v := .int (g_I z 13)) hc uin_X3 3 eX_3 rfl 16 (by decide) k_162 rfl d_X3_bearChunk_1 ?_
  refine V_istore_n hc [(1, .int (g_I z 13)), (0, .ref (a 3))] d_X3_bearChunk_4 rfl (by decide) rfl ?_
  obtain ⟨n9, hw⟩ := hw
  refine V_sub [1, 0] [(0, .ref (a 3)), (1, .int (g_I z 13))] rfl ?_
  exact l_X3_bearChunk_5 l K cA D a Q p e s m args below meth c hc hr n9 (g_I z 13) z hw
def w_X3_readEvent (K : Nat)  (z : St) (Q : Unit → St → Prop) : Prop :=
  w_X3_emit K  z (fun r1 u2 => (vp_in (g_I u2 12) 160 ∧ ((¬ (g_A u2 6 (g_I u2 12 : Int32).toNatClampNeg) = 1 → w_X3_bearChunk K  u2 (fun r3 u4 => Q () u4)) ∧ ((g_A u2 6 (g_I u2 12 : Int32).toNatClampNeg) = 1 → (vp_in (g_I u2 12) 160 ∧ w_X3_strikeKeysOf K (g_A u2 7 (g_I u2 12 : Int32).toNatClampNeg) u2 (fun r5 u6 => Q () u6))))))
set_option maxHeartbeats 4000000 in
set_option maxRecDepth 100000 in
theorem c_X3_readEvent (l : Launch) (K : Nat) (cA : Nat → ClassId) (D : va_G) (a : Nat → Nat)  (z : St) : Ct l NS CL D (tyX cA) 23 a (WX K cA a) mkV y_X3_readEvent (.code y_X3_readEvent b_X3_readEvent 1 none :: TS) { frames := 4, cells := 0, slots := 0, locals := 90 } [.ref (a 3)] z (w_X3_readEvent K  z) := by
  refine Ct.of (by decide) (Nat.le_of_ble_eq_true rfl) adX ?_
  intro Q p e s m args below meth c hc hr hw
  unfold w_X3_readEvent at hw
  refine V_st _ [(0, .ref (a 3))] _ rfl rfl rfl ?_
  refine V_aload_n hc d_X3_readEvent_0 rfl 0 rfl ?_
  refine V_callVv (As := []) (st := []) hc TS_good NS_nest (fun _ h => h) (c_X3_emit l K cA D a  z) k_422 k_6 k_425 k_424 kp_X3_emit 3 eX_3 rfl q_X3_emit (by decide) (Nat.zero_le _) (Nat.zero_le _) rfl (Nat.le_of_ble_eq_true rfl) d_X3_readEvent_1 hw (fun r1 u2 hw => ?_)
  try dsimp only at hw
  refine V_aload_n hc d_X3_readEvent_4 rfl 0 rfl ?_
  refine V_get (v := .ref (a 5)) hc uin_X3 3 eX_3 rfl 0 (by decide) k_144 rfl d_X3_readEvent_5 ?_
  refine V_getN (v := .ref (a 17)) hc uin_X5 5 eX_5 rfl 0 (by decide) k_37 rfl d_X3_readEvent_8 ?_
  refine V_aload_n hc d_X3_readEvent_11 rfl 0 rfl ?_
  refine V_get (v := .int (g_I u2 12)) hc uin_X3 3 eX_3 rfl 15 (by decide) k_161 rfl d_X3_readEvent_12 ?_
  obtain ⟨hi, hw⟩ := hw
  refine V_iald (x := g_A u2 6 (g_I u2 12 : Int32).toNatClampNeg) hc 17 0 eX_17 rfl hi rfl d_X3_readEvent_15 ?_
  refine V_iconst (v := 1) hc d_X3_readEvent_16 (by decide) ?_
  refine V_icmp_ne (tgt := 39) hc d_X3_readEvent_17 rfl (fun h => ?_) (fun h => ?_)
  · replace hw := hw.1 h
    refine V_aload_n hc d_X3_readEvent_39 rfl 0 rfl ?_
    refine V_callVv (As := []) (st := []) hc TS_good NS_nest (fun _ h => h) (c_X3_bearChunk l K cA D a  u2) k_450 k_6 k_453 k_452 kp_X3_bearChunk 3 eX_3 rfl q_X3_bearChunk (by decide) (Nat.zero_le _) (Nat.zero_le _) rfl (Nat.le_of_ble_eq_true rfl) d_X3_readEvent_40 hw (fun r3 u4 hw => ?_)
    try dsimp only at hw
    exact V_vret hc NS_nest hr hw d_X3_readEvent_43
  · replace hw := hw.2 h
    refine V_aload_n hc d_X3_readEvent_20 rfl 0 rfl ?_
    refine V_aload_n hc d_X3_readEvent_21 rfl 0 rfl ?_
    refine V_get (v := .ref (a 5)) hc uin_X3 3 eX_3 rfl 0 (by decide) k_144 rfl d_X3_readEvent_22 ?_
    refine V_getN (v := .ref (a 18)) hc uin_X5 5 eX_5 rfl 1 (by decide) k_40 rfl d_X3_readEvent_25 ?_
    refine V_aload_n hc d_X3_readEvent_28 rfl 0 rfl ?_
    refine V_get (v := .int (g_I u2 12)) hc uin_X3 3 eX_3 rfl 15 (by decide) k_161 rfl d_X3_readEvent_29 ?_
    obtain ⟨hi, hw⟩ := hw
    refine V_iald (x := g_A u2 7 (g_I u2 12 : Int32).toNatClampNeg) hc 18 0 eX_18 rfl hi rfl d_X3_readEvent_32 ?_
    refine V_callVv (As := [.int (g_A u2 7 (g_I u2 12 : Int32).toNatClampNeg)]) (st := []) hc TS_good NS_nest (fun _ h => h) (c_X3_strikeKeysOf l K cA D a (g_A u2 7 (g_I u2 12 : Int32).toNatClampNeg) u2) k_438 k_6 k_441 k_440 kp_X3_strikeKeysOf 3 eX_3 rfl q_X3_strikeKeysOf (by decide) (Nat.zero_le _) (Nat.zero_le _) rfl (Nat.le_of_ble_eq_true rfl) d_X3_readEvent_33 hw (fun r5 u6 hw => ?_)
    try dsimp only at hw
    refine V_goto (tgt := 43) hc d_X3_readEvent_36 rfl ?_
    exact V_vret hc NS_nest hr hw d_X3_readEvent_43
