def w_X4_storeStaged (K : Nat)  (z : St) (Q : Int32 → St → Prop) : Prop :=
  ((¬ g_I z 16 = (-1) → (vp_in (g_I z 16) 160 ∧ ((¬ (g_A z 6 (g_I z 16 : Int32).toNatClampNeg) = 4 → (vp_in (g_I z 16) 160 ∧ w_X4_storeChanges K (g_A z 7 (g_I z 16 : Int32).toNatClampNeg) z (fun r1 u2 => Q 1 (s_I (s_I u2 17 (g_I u2 16)) 16 (-1))))) ∧ ((g_A z 6 (g_I z 16 : Int32).toNatClampNeg) = 4 → (vp_in (g_I z 16) 160 ∧ w_X4_storeChunk K (g_A z 8 (g_I z 16 : Int32).toNatClampNeg) z (fun r3 u4 => Q 1 (s_I (s_I u4 17 (g_I u4 16)) 16 (-1)))))))) ∧ (g_I z 16 = (-1) → Q 0 z))
set_option maxHeartbeats 4000000 in
set_option maxRecDepth 100000 in
theorem c_X4_storeStaged (l : Launch) (K : Nat) (cA : Nat → ClassId) (D : va_G) (a : Nat → Nat)  (z : St) : Ct l NS CL D (tyX cA) 23 a (WX K cA a) mkI y_X4_storeStaged (.code y_X4_storeStaged b_X4_storeStaged 2 (some .boolean) :: TS) { frames := 3, cells := 0, slots := 0, locals := 68 } [.ref (a 4), .ref (a 12)] z (w_X4_storeStaged K  z) := by
  refine Ct.of (by decide) (Nat.le_of_ble_eq_true rfl) adX ?_
  intro Q p e s m args below meth c hc hr hw
  unfold w_X4_storeStaged at hw
  refine V_st _ [(0, .ref (a 4)), (1, .ref (a 12))] _ rfl rfl rfl ?_
  refine V_aload_n hc d_X4_storeStaged_0 rfl 0 rfl ?_
  refine V_get (v := .int (g_I z 16)) hc uin_X4 4 eX_4 rfl 4 (by decide) k_213 rfl d_X4_storeStaged_1 ?_
  refine V_iconst (v := (-1)) hc d_X4_storeStaged_4 (by decide) ?_
  refine V_icmp_ne (tgt := 10) hc d_X4_storeStaged_5 rfl (fun h => ?_) (fun h => ?_)
  · replace hw := hw.1 h
    refine V_aload_n hc d_X4_storeStaged_10 rfl 0 rfl ?_
    refine V_get (v := .ref (a 5)) hc uin_X4 4 eX_4 rfl 0 (by decide) k_208 rfl d_X4_storeStaged_11 ?_
    refine V_getN (v := .ref (a 17)) hc uin_X5 5 eX_5 rfl 0 (by decide) k_36 rfl d_X4_storeStaged_14 ?_
    refine V_aload_n hc d_X4_storeStaged_17 rfl 0 rfl ?_
    refine V_get (v := .int (g_I z 16)) hc uin_X4 4 eX_4 rfl 4 (by decide) k_213 rfl d_X4_storeStaged_18 ?_
    obtain ⟨hi, hw⟩ := hw
    refine V_iald (x := g_A z 6 (g_I z 16 : Int32).toNatClampNeg) hc 17 0 eX_17 rfl hi rfl d_X4_storeStaged_21 ?_
    refine V_iconst (v := 4) hc d_X4_storeStaged_22 (by decide) ?_
    refine V_icmp_ne (tgt := 46) hc d_X4_storeStaged_23 rfl (fun h => ?_) (fun h => ?_)
    · replace hw := hw.1 h
      refine V_aload_n hc d_X4_storeStaged_46 rfl 0 rfl ?_
      refine V_aload_n hc d_X4_storeStaged_47 rfl 0 rfl ?_
      refine V_get (v := .ref (a 5)) hc uin_X4 4 eX_4 rfl 0 (by decide) k_208 rfl d_X4_storeStaged_48 ?_
      refine V_getN (v := .ref (a 18)) hc uin_X5 5 eX_5 rfl 1 (by decide) k_39 rfl d_X4_storeStaged_51 ?_
      refine V_aload_n hc d_X4_storeStaged_54 rfl 0 rfl ?_
      refine V_get (v := .int (g_I z 16)) hc uin_X4 4 eX_4 rfl 4 (by decide) k_213 rfl d_X4_storeStaged_55 ?_
      obtain ⟨hi, hw⟩ := hw
      refine V_iald (x := g_A z 7 (g_I z 16 : Int32).toNatClampNeg) hc 18 0 eX_18 rfl hi rfl d_X4_storeStaged_58 ?_
      refine V_callVv (As := [.int (g_A z 7 (g_I z 16 : Int32).toNatClampNeg)]) (st := []) hc TS_good NS_nest (fun _ h => h) (c_X4_storeChanges l K cA D a (g_A z 7 (g_I z 16 : Int32).toNatClampNeg) z) k_540 k_8 k_543 k_542 kp_X4_storeChanges 4 eX_4 rfl q_X4_storeChanges (by decide) (Nat.zero_le _) (Nat.zero_le _) rfl (Nat.le_of_ble_eq_true rfl) d_X4_storeStaged_59 hw (fun r1 u2 hw => ?_)
      try dsimp only at hw
      refine V_aload_n hc d_X4_storeStaged_62 rfl 0 rfl ?_
      refine V_aload_n hc d_X4_storeStaged_63 rfl 0 rfl ?_
      refine V_get (v := .int (g_I u2 16)) hc uin_X4 4 eX_4 rfl 4 (by decide) k_213 rfl d_X4_storeStaged_64 ?_
      refine V_put (ty := .int) hc uin_X4 4 eX_4 rfl 5 (by decide) t_X4 t_X4_ok n_X4 k_214 rfl (by decide +kernel) rfl rfl (Nat.le_of_ble_eq_true rfl) iX_17 d_X4_storeStaged_67 ?_
      refine V_aload_n hc d_X4_storeStaged_70 rfl 0 rfl ?_
      refine V_iconst (v := (-1)) hc d_X4_storeStaged_71 (by decide) ?_
      refine V_put (ty := .int) hc uin_X4 4 eX_4 rfl 4 (by decide) t_X4 t_X4_ok n_X4 k_213 rfl (by decide +kernel) rfl rfl (Nat.le_of_ble_eq_true rfl) iX_16 d_X4_storeStaged_72 ?_
      refine V_iconst (v := 1) hc d_X4_storeStaged_75 (by decide) ?_
      exact V_zret hc NS_nest hr (by decide) hw d_X4_storeStaged_76
    · replace hw := hw.2 h
      refine V_aload_n hc d_X4_storeStaged_26 rfl 0 rfl ?_
      refine V_aload_n hc d_X4_storeStaged_27 rfl 1 rfl ?_
      refine V_aload_n hc d_X4_storeStaged_28 rfl 0 rfl ?_
      refine V_get (v := .ref (a 5)) hc uin_X4 4 eX_4 rfl 0 (by decide) k_208 rfl d_X4_storeStaged_29 ?_
      refine V_getN (v := .ref (a 19)) hc uin_X5 5 eX_5 rfl 2 (by decide) k_42 rfl d_X4_storeStaged_32 ?_
      refine V_aload_n hc d_X4_storeStaged_35 rfl 0 rfl ?_
      refine V_get (v := .int (g_I z 16)) hc uin_X4 4 eX_4 rfl 4 (by decide) k_213 rfl d_X4_storeStaged_36 ?_
      obtain ⟨hi, hw⟩ := hw
      refine V_iald (x := g_A z 8 (g_I z 16 : Int32).toNatClampNeg) hc 19 0 eX_19 rfl hi rfl d_X4_storeStaged_39 ?_
      refine V_callVv (As := [.ref (a 12), .int (g_A z 8 (g_I z 16 : Int32).toNatClampNeg)]) (st := []) hc TS_good NS_nest (fun _ h => h) (c_X4_storeChunk l K cA D a (g_A z 8 (g_I z 16 : Int32).toNatClampNeg) z) k_528 k_8 k_531 k_530 kp_X4_storeChunk 4 eX_4 rfl q_X4_storeChunk (by decide) (Nat.zero_le _) (Nat.zero_le _) rfl (Nat.le_of_ble_eq_true rfl) d_X4_storeStaged_40 hw (fun r3 u4 hw => ?_)
      try dsimp only at hw
      refine V_goto (tgt := 62) hc d_X4_storeStaged_43 rfl ?_
      refine V_aload_n hc d_X4_storeStaged_62 rfl 0 rfl ?_
      refine V_aload_n hc d_X4_storeStaged_63 rfl 0 rfl ?_
      refine V_get (v := .int (g_I u4 16)) hc uin_X4 4 eX_4 rfl 4 (by decide) k_213 rfl d_X4_storeStaged_64 ?_
      refine V_put (ty := .int) hc uin_X4 4 eX_4 rfl 5 (by decide) t_X4 t_X4_ok n_X4 k_214 rfl (by decide +kernel) rfl rfl (Nat.le_of_ble_eq_true rfl) iX_17 d_X4_storeStaged_67 ?_
      refine V_aload_n hc d_X4_storeStaged_70 rfl 0 rfl ?_
      refine V_iconst (v := (-1)) hc d_X4_storeStaged_71 (by decide) ?_
      refine V_put (ty := .int) hc uin_X4 4 eX_4 rfl 4 (by decide) t_X4 t_X4_ok n_X4 k_213 rfl (by decide +kernel) rfl rfl (Nat.le_of_ble_eq_true rfl) iX_16 d_X4_storeStaged_72 ?_
      refine V_iconst (v := 1) hc d_X4_storeStaged_75 (by decide) ?_
      exact V_zret hc NS_nest hr (by decide) hw d_X4_storeStaged_76
  · replace hw := hw.2 h
    refine V_iconst (v := 0) hc d_X4_storeStaged_8 (by decide) ?_
    exact V_zret hc NS_nest hr (by decide) hw d_X4_storeStaged_9
def w_X0_apply (K : Nat)  (z : St) (Q : Int32 → St → Prop) : Prop :=
  w_X4_storeStaged K  z (fun r1 u2 => ((¬ r1 = 0 → w_X0_sendAck K  u2 (fun r3 u4 => Q 1 u4)) ∧ (r1 = 0 → Q 0 u2)))
set_option maxHeartbeats 4000000 in
set_option maxRecDepth 100000 in
theorem c_X0_apply (l : Launch) (K : Nat) (cA : Nat → ClassId) (D : va_G) (a : Nat → Nat)  (z : St) : Ct l NS CL D (tyX cA) 23 a (WX K cA a) mkI y_X0_apply (.code y_X0_apply b_X0_apply 1 (some .boolean) :: TS) { frames := 4, cells := 0, slots := 0, locals := 89 } [.ref (a 0)] z (w_X0_apply K  z) := by
  refine Ct.of (by decide) (Nat.le_of_ble_eq_true rfl) adX ?_
  intro Q p e s m args below meth c hc hr hw
  unfold w_X0_apply at hw
  refine V_st _ [(0, .ref (a 0))] _ rfl rfl rfl ?_
  refine V_aload_n hc d_X0_apply_0 rfl 0 rfl ?_
  refine V_get (v := .ref (a 4)) hc uin_X0 0 eX_0 rfl 4 (by decide) k_237 rfl d_X0_apply_1 ?_
  refine V_aload_n hc d_X0_apply_4 rfl 0 rfl ?_
  refine V_get (v := .ref (a 3)) hc uin_X0 0 eX_0 rfl 3 (by decide) k_236 rfl d_X0_apply_5 ?_
  refine V_getN (v := .ref (a 12)) hc uin_X3 3 eX_3 rfl 7 (by decide) k_152 rfl d_X0_apply_8 ?_
  refine V_callVi (As := [.ref (a 12)]) (st := []) hc TS_good NS_nest (fun _ h => h) (c_X4_storeStaged l K cA D a  z) k_524 k_8 k_527 k_525 k_526 4 eX_4 rfl q_X4_storeStaged (by decide) (Nat.zero_le _) (Nat.zero_le _) rfl (Nat.le_of_ble_eq_true rfl) d_X0_apply_11 hw (fun r1 u2 hw => ?_)
  try dsimp only at hw
  refine V_if_ne (tgt := 19) hc d_X0_apply_14 rfl (fun h => ?_) (fun h => ?_)
  · replace hw := hw.1 h
    refine V_aload_n hc d_X0_apply_19 rfl 0 rfl ?_
    refine V_callVv (As := []) (st := []) hc TS_good NS_nest (fun _ h => h) (c_X0_sendAck l K cA D a  u2) k_494 k_1 k_497 k_496 kp_X0_sendAck 0 eX_0 rfl q_X0_sendAck (by decide) (Nat.zero_le _) (Nat.zero_le _) rfl (Nat.le_of_ble_eq_true rfl) d_X0_apply_20 hw (fun r3 u4 hw => ?_)
    try dsimp only at hw
    refine V_iconst (v := 1) hc d_X0_apply_23 (by decide) ?_
    exact V_zret hc NS_nest hr (by decide) hw d_X0_apply_24
  · replace hw := hw.2 h
    refine V_iconst (v := 0) hc d_X0_apply_17 (by decide) ?_
    exact V_zret hc NS_nest hr (by decide) hw d_X0_apply_18
def w_X0_stored (K : Nat) (x1 : Int32) (z : St) (Q : Int64 → St → Prop) : Prop :=
  w_X0_isKey K x1 z (fun r1 u2 => ((r1 = 0 → Q (-1) u2) ∧ (¬ r1 = 0 → (vp_in x1 K ∧ Q (g_L u2 3 (x1 : Int32).toNatClampNeg) u2))))
set_option maxHeartbeats 4000000 in
set_option maxRecDepth 100000 in
theorem c_X0_stored (l : Launch) (K : Nat) (cA : Nat → ClassId) (D : va_G) (a : Nat → Nat) (x1 : Int32) (z : St) : Ct l NS CL D (tyX cA) 23 a (WX K cA a) mkL y_X0_stored (.code y_X0_stored b_X0_stored 2 (some .long) :: TS) { frames := 1, cells := 0, slots := 0, locals := 21 } [.ref (a 0), .int x1] z (w_X0_stored K x1 z) := by
  refine Ct.of (by decide) (Nat.le_of_ble_eq_true rfl) adX ?_
  intro Q p e s m args below meth c hc hr hw
  unfold w_X0_stored at hw
  refine V_st _ [(0, .ref (a 0)), (1, .int x1)] _ rfl rfl rfl ?_
  refine V_aload_n hc d_X0_stored_0 rfl 0 rfl ?_
  refine V_iload_n hc d_X0_stored_1 rfl 1 rfl ?_
  refine V_callVi (As := [.int x1]) (st := []) hc TS_good NS_nest (fun _ h => h) (c_X0_isKey l K cA D a x1 z) k_277 k_1 k_280 k_279 kp_X0_isKey 0 eX_0 rfl q_X0_isKey (by decide) (Nat.zero_le _) (Nat.zero_le _) rfl (Nat.le_of_ble_eq_true rfl) d_X0_stored_2 hw (fun r1 u2 hw => ?_)
  try dsimp only at hw
  refine V_if_eq (tgt := 20) hc d_X0_stored_5 rfl (fun h => ?_) (fun h => ?_)
  · replace hw := hw.1 h
    refine V_ldc2 (v := (-1)) hc k_314 d_X0_stored_20 ?_
    exact V_lret hc NS_nest hr hw d_X0_stored_23
  · replace hw := hw.2 h
    refine V_aload_n hc d_X0_stored_8 rfl 0 rfl ?_
    refine V_get (v := .ref (a 4)) hc uin_X0 0 eX_0 rfl 4 (by decide) k_237 rfl d_X0_stored_9 ?_
    refine V_getN (v := .ref (a 16)) hc uin_X4 4 eX_4 rfl 3 (by decide) k_212 rfl d_X0_stored_12 ?_
    refine V_iload_n hc d_X0_stored_15 rfl 1 rfl ?_
    obtain ⟨hi, hw⟩ := hw
    refine V_lald (x := g_L u2 3 (x1 : Int32).toNatClampNeg) hc 16 1 eX_16 rfl hi rfl d_X0_stored_16 ?_
    refine V_goto (tgt := 23) hc d_X0_stored_17 rfl ?_
    exact V_lret hc NS_nest hr hw d_X0_stored_23
def w_X0_groupOf (K : Nat) (x1 : Int64) (z : St) (Q : Int32 → St → Prop) : Prop :=
  Q (((x1 >>> ((32 : Int32).toInt64 &&& 63)) : Int64).toInt32) z
set_option maxHeartbeats 4000000 in
set_option maxRecDepth 100000 in
theorem c_X0_groupOf (l : Launch) (K : Nat) (cA : Nat → ClassId) (D : va_G) (a : Nat → Nat) (x1 : Int64) (z : St) : Ct l NS CL D (tyX cA) 0 a (fun _ => []) mkI y_X0_groupOf (.code y_X0_groupOf b_X0_groupOf 2 (some .int) :: TS) { frames := 0, cells := 0, slots := 0, locals := 0 } [.long x1] z (w_X0_groupOf K x1 z) := by
  refine Ct.of (by decide) (Nat.le_of_ble_eq_true rfl) ad0 ?_
  intro Q p e s m args below meth c hc hr hw
  unfold w_X0_groupOf at hw
  refine V_st _ [(0, .long x1)] _ rfl rfl rfl ?_
  refine V_lload_n hc d_X0_groupOf_0 rfl 0 rfl ?_
  refine V_bipush (v := 32) hc d_X0_groupOf_1 (by decide) ?_
  refine V_lshr hc d_X0_groupOf_3 rfl ?_
  refine V_l2i hc d_X0_groupOf_4 rfl ?_
  exact V_iret hc NS_nest hr hw d_X0_groupOf_5
def w_X4_isOfGroup (K : Nat) (x1 : Int32) (x2 : Int32) (z : St) (Q : Int32 → St → Prop) : Prop :=
  (vp_in x1 K ∧ (((lg_cmp (g_L z 3 (x1 : Int32).toNatClampNeg) (-1)) = 0 → Q 0 z) ∧ (¬ (lg_cmp (g_L z 3 (x1 : Int32).toNatClampNeg) (-1)) = 0 → (vp_in x1 K ∧ w_X0_groupOf K (g_L z 3 (x1 : Int32).toNatClampNeg) z (fun r1 u2 => ((¬ r1 = x2 → Q 0 z) ∧ (r1 = x2 → Q 1 z)))))))
set_option maxHeartbeats 4000000 in
set_option maxRecDepth 100000 in
theorem c_X4_isOfGroup (l : Launch) (K : Nat) (cA : Nat → ClassId) (D : va_G) (a : Nat → Nat) (x1 : Int32) (x2 : Int32) (z : St) : Ct l NS CL D (tyX cA) 23 a (WX K cA a) mkI y_X4_isOfGroup (.code y_X4_isOfGroup b_X4_isOfGroup 3 (some .boolean) :: TS) { frames := 1, cells := 0, slots := 0, locals := 21 } [.ref (a 4), .int x1, .int x2] z (w_X4_isOfGroup K x1 x2 z) := by
  refine Ct.of (by decide) (Nat.le_of_ble_eq_true rfl) adX ?_
  intro Q p e s m args below meth c hc hr hw
  unfold w_X4_isOfGroup at hw
  refine V_st _ [(0, .ref (a 4)), (1, .int x1), (2, .int x2)] _ rfl rfl rfl ?_
  refine V_aload_n hc d_X4_isOfGroup_0 rfl 0 rfl ?_
  refine V_get (v := .ref (a 16)) hc uin_X4 4 eX_4 rfl 3 (by decide) k_211 rfl d_X4_isOfGroup_1 ?_
  refine V_iload_n hc d_X4_isOfGroup_4 rfl 1 rfl ?_
  obtain ⟨hi, hw⟩ := hw
  refine V_lald (x := g_L z 3 (x1 : Int32).toNatClampNeg) hc 16 1 eX_16 rfl hi rfl d_X4_isOfGroup_5 ?_
  refine V_ldc2 (v := (-1)) hc k_204 d_X4_isOfGroup_6 ?_
  refine V_lcmp hc d_X4_isOfGroup_9 rfl ?_
  refine V_if_eq (tgt := 30) hc d_X4_isOfGroup_10 rfl (fun h => ?_) (fun h => ?_)
  · replace hw := hw.1 h
    refine V_iconst (v := 0) hc d_X4_isOfGroup_30 (by decide) ?_
    exact V_zret hc NS_nest hr (by decide) hw d_X4_isOfGroup_31
  · replace hw := hw.2 h
    refine V_aload_n hc d_X4_isOfGroup_13 rfl 0 rfl ?_
    refine V_get (v := .ref (a 16)) hc uin_X4 4 eX_4 rfl 3 (by decide) k_211 rfl d_X4_isOfGroup_14 ?_
    refine V_iload_n hc d_X4_isOfGroup_17 rfl 1 rfl ?_
    obtain ⟨hi, hw⟩ := hw
    refine V_lald (x := g_L z 3 (x1 : Int32).toNatClampNeg) hc 16 1 eX_16 rfl hi rfl d_X4_isOfGroup_18 ?_
    refine V_callSNi (b := 0) (As := [.long (g_L z 3 (x1 : Int32).toNatClampNeg)]) (st := []) hc TS_good NS_nest (fun _ h => Or.inr h) (c_X0_groupOf l K cA D a (g_L z 3 (x1 : Int32).toNatClampNeg) z) k_561 k_1 k_563 k_562 q_X0_groupOf (by decide) (Nat.zero_le _) (Nat.zero_le _) rfl (Nat.le_of_ble_eq_true rfl) d_X4_isOfGroup_19 hw (fun r1 u2 hw => ?_)
    try dsimp only at hw
    refine V_iload_n hc d_X4_isOfGroup_22 rfl 2 rfl ?_
    refine V_icmp_ne (tgt := 30) hc d_X4_isOfGroup_23 rfl (fun h => ?_) (fun h => ?_)
    · replace hw := hw.1 h
      refine V_iconst (v := 0) hc d_X4_isOfGroup_30 (by decide) ?_
      exact V_zret hc NS_nest hr (by decide) hw d_X4_isOfGroup_31
    · replace hw := hw.2 h
      refine V_iconst (v := 1) hc d_X4_isOfGroup_26 (by decide) ?_
      refine V_goto (tgt := 31) hc d_X4_isOfGroup_27 rfl ?_
      exact V_zret hc NS_nest hr (by decide) hw d_X4_isOfGroup_31
def w_X4_sumOf_5 (K : Nat) (Q : Int64 → St → Prop) : Nat → Int32 → Int64 → Int32 → St → Prop
  | 0, _, _, _, _ => False
  | n + 1, v1, v2, v4, z => (((Int32.ofNat K) ≤ v4 → Q v2 z) ∧ (¬ (Int32.ofNat K) ≤ v4 → w_X4_isOfGroup K v4 v1 z (fun r1 u2 => ((r1 = 0 → w_X4_sumOf_5 K Q n v1 v2 (v4 + 1) u2) ∧ (¬ r1 = 0 → (vp_in v4 K ∧ w_X0_amountOf K (g_L u2 3 (v4 : Int32).toNatClampNeg) u2 (fun r3 u4 => w_X4_sumOf_5 K Q n v1 (v2 + (r3 : Int32).toInt64) (v4 + 1) u2)))))))
def w_X4_sumOf (K : Nat) (x1 : Int32) (z : St) (Q : Int64 → St → Prop) : Prop :=
  (∃ n9, w_X4_sumOf_5 K Q n9 x1 0 0 z)
set_option maxHeartbeats 4000000 in
set_option maxRecDepth 100000 in
theorem l_X4_sumOf_5 (l : Launch) (K : Nat) (cA : Nat → ClassId) (D : va_G) (a : Nat → Nat) (Q : Int64 → St → Prop) (p : Program) (e : Env) (s : State) (m : MethodId) (args : Array Value) (below : List Frame) (meth : Method) (c : Code) (hc : Cx TS NS CL D (tyX cA) p s m args meth c b_X4_sumOf 5 y_X4_sumOf.cls) (hr : meth.sig.returnType = (some .long)) : ∀ (n : Nat) (v1 : Int32) (v2 : Int64) (v4 : Int32) (z : St), w_X4_sumOf_5 K Q n v1 v2 v4 z → V CL p l e { frames := 2, cells := 0, slots := 0, locals := 43 } s m args below meth c 5 D (AX 23 a s.heap.size) 0 0 (MQ below (Qg NS CL D (tyX cA) (WX K cA a) (AX 23 a s.heap.size) mkL Q) args s 0 0 (AX 23 a s.heap.size)) (WX K cA a z) 5 [(0, .ref (a 4)), (1, .int v1), (2, .long v2), (4, .int v4)] [] := by
  intro n
  induction n with
  | zero =>
    intro v1 v2 v4 z hw
    exact hw.elim
  | succ n ih =>
    intro v1 v2 v4 z hw
    unfold w_X4_sumOf_5 at hw
    refine V_iload hc d_X4_sumOf_5 3 rfl ?_
    refine V_aload_n hc d_X4_sumOf_7 rfl 0 rfl ?_
    refine V_get (v := .ref (a 16)) hc uin_X4 4 eX_4 rfl 3 (by decide) k_211 rfl d_X4_sumOf_8 ?_
    refine V_alen (v := (Int32.ofNat K)) hc 16 1 eX_16 rfl rfl d_X4_sumOf_11 ?_
    refine V_icmp_ge (tgt := 45) hc d_X4_sumOf_12 rfl (fun h => ?_) (fun h => ?_)
    · replace hw := hw.1 h
      refine V_lload_n hc d_X4_sumOf_45 rfl 2 rfl ?_
      exact V_lret hc NS_nest hr hw d_X4_sumOf_46
    · replace hw := hw.2 h
      refine V_aload_n hc d_X4_sumOf_15 rfl 0 rfl ?_
      refine V_iload hc d_X4_sumOf_16 3 rfl ?_
      refine V_iload_n hc d_X4_sumOf_18 rfl 1 rfl ?_
      refine V_callVi (As := [.int v4, .int v1]) (st := []) hc TS_good NS_nest (fun _ h => h) (c_X4_isOfGroup l K cA D a v4 v1 z) k_557 k_8 k_560 k_559 kp_X4_isOfGroup 4 eX_4 rfl q_X4_isOfGroup (by decide) (Nat.zero_le _) (Nat.zero_le _) rfl (Nat.le_of_ble_eq_true rfl) d_X4_sumOf_19 hw (fun r1 u2 hw => ?_)
      try dsimp only at hw
      refine V_if_eq (tgt := 39) hc d_X4_sumOf_22 rfl (fun h => ?_) (fun h => ?_)
      · replace hw := hw.1 h
        refine V_iinc (v := (v4 + 1)) hc [(4, .int (v4 + 1)), (0, .ref (a 4)), (1, .int v1), (2, .long v2)] d_X4_sumOf_39 3 rfl (by rfl) (by decide) rfl ?_
        refine V_goto (tgt := 5) hc d_X4_sumOf_42 rfl ?_
        refine V_sub [1, 2, 3, 0] [(0, .ref (a 4)), (1, .int v1), (2, .long v2), (4, .int (v4 + 1))] rfl ?_
        exact ih v1 v2 (v4 + 1) u2 hw
      · replace hw := hw.2 h
        refine V_lload_n hc d_X4_sumOf_25 rfl 2 rfl ?_
        refine V_aload_n hc d_X4_sumOf_26 rfl 0 rfl ?_
        refine V_get (v := .ref (a 16)) hc uin_X4 4 eX_4 rfl 3 (by decide) k_211 rfl d_X4_sumOf_27 ?_
        refine V_iload hc d_X4_sumOf_30 3 rfl ?_
        obtain ⟨hi, hw⟩ := hw
        refine V_lald (x := g_L u2 3 (v4 : Int32).toNatClampNeg) hc 16 1 eX_16 rfl hi rfl d_X4_sumOf_32 ?_
        refine V_callSNi (b := 0) (As := [.long (g_L u2 3 (v4 : Int32).toNatClampNeg)]) (st := [.long v2]) hc TS_good NS_nest (fun _ h => Or.inr h) (c_X0_amountOf l K cA D a (g_L u2 3 (v4 : Int32).toNatClampNeg) u2) k_537 k_1 k_539 k_538 q_X0_amountOf (by decide) (Nat.zero_le _) (Nat.zero_le _) rfl (Nat.le_of_ble_eq_true rfl) d_X4_sumOf_33 hw (fun r3 u4 hw => ?_)
        try dsimp only at hw
        refine V_i2l hc d_X4_sumOf_36 rfl ?_
        refine V_ladd hc d_X4_sumOf_37 rfl ?_
        refine V_lstore_n hc [(2, .long (v2 + (r3 : Int32).toInt64)), (0, .ref (a 4)), (1, .int v1), (4, .int v4)] d_X4_sumOf_38 rfl (by decide) rfl ?_
        refine V_iinc (v := (v4 + 1)) hc [(4, .int (v4 + 1)), (2, .long (v2 + (r3 : Int32).toInt64)), (0, .ref (a 4)), (1, .int v1)] d_X4_sumOf_39 3 rfl (by rfl) (by decide) rfl ?_
        refine V_goto (tgt := 5) hc d_X4_sumOf_42 rfl ?_
        refine V_sub [2, 3, 1, 0] [(0, .ref (a 4)), (1, .int v1), (2, .long (v2 + (r3 : Int32).toInt64)), (4, .int (v4 + 1))] rfl ?_
        exact ih v1 (v2 + (r3 : Int32).toInt64) (v4 + 1) u2 hw
set_option maxHeartbeats 4000000 in
set_option maxRecDepth 100000 in
theorem c_X4_sumOf (l : Launch) (K : Nat) (cA : Nat → ClassId) (D : va_G) (a : Nat → Nat) (x1 : Int32) (z : St) : Ct l NS CL D (tyX cA) 23 a (WX K cA a) mkL y_X4_sumOf (.code y_X4_sumOf b_X4_sumOf 5 (some .long) :: TS) { frames := 2, cells := 0, slots := 0, locals := 43 } [.ref (a 4), .int x1] z (w_X4_sumOf K x1 z) := by
  refine Ct.of (by decide) (Nat.le_of_ble_eq_true rfl) adX ?_
  intro Q p e s m args below meth c hc hr hw
  unfold w_X4_sumOf at hw
  refine V_st _ [(0, .ref (a 4)), (1, .int x1)] _ rfl rfl rfl ?_
  refine V_lconst (v := 0) hc d_X4_sumOf_0 (by decide) ?_
  refine V_lstore_n hc [(2, .long 0), (0, .ref (a 4)), (1, .int x1)] d_X4_sumOf_1 rfl (by decide) rfl ?_
  refine V_iconst (v := 0) hc d_X4_sumOf_2 (by decide) ?_
  refine V_istore hc [(4, .int 0), (2, .long 0), (0, .ref (a 4)), (1, .int x1)] d_X4_sumOf_3 (by decide) rfl ?_
  obtain ⟨n9, hw⟩ := hw
  refine V_sub [2, 3, 1, 0] [(0, .ref (a 4)), (1, .int x1), (2, .long 0), (4, .int 0)] rfl ?_
  exact l_X4_sumOf_5 l K cA D a Q p e s m args below meth c hc hr n9 x1 0 0 z hw
def w_X4_countOf_4 (K : Nat) (Q : Int32 → St → Prop) : Nat → Int32 → Int32 → Int32 → St → Prop
  | 0, _, _, _, _ => False
  | n + 1, v1, v2, v3, z => (((Int32.ofNat K) ≤ v3 → Q v2 z) ∧ (¬ (Int32.ofNat K) ≤ v3 → w_X4_isOfGroup K v3 v1 z (fun r1 u2 => ((r1 = 0 → w_X4_countOf_4 K Q n v1 v2 (v3 + 1) u2) ∧ (¬ r1 = 0 → w_X4_countOf_4 K Q n v1 (v2 + 1) (v3 + 1) u2)))))
def w_X4_countOf (K : Nat) (x1 : Int32) (z : St) (Q : Int32 → St → Prop) : Prop :=
  (∃ n9, w_X4_countOf_4 K Q n9 x1 0 0 z)
set_option maxHeartbeats 4000000 in
set_option maxRecDepth 100000 in
theorem l_X4_countOf_4 (l : Launch) (K : Nat) (cA : Nat → ClassId) (D : va_G) (a : Nat → Nat) (Q : Int32 → St → Prop) (p : Program) (e : Env) (s : State) (m : MethodId) (args : Array Value) (below : List Frame) (meth : Method) (c : Code) (hc : Cx TS NS CL D (tyX cA) p s m args meth c b_X4_countOf 4 y_X4_countOf.cls) (hr : meth.sig.returnType = (some .int)) : ∀ (n : Nat) (v1 : Int32) (v2 : Int32) (v3 : Int32) (z : St), w_X4_countOf_4 K Q n v1 v2 v3 z → V CL p l e { frames := 2, cells := 0, slots := 0, locals := 43 } s m args below meth c 4 D (AX 23 a s.heap.size) 0 0 (MQ below (Qg NS CL D (tyX cA) (WX K cA a) (AX 23 a s.heap.size) mkI Q) args s 0 0 (AX 23 a s.heap.size)) (WX K cA a z) 4 [(0, .ref (a 4)), (1, .int v1), (2, .int v2), (3, .int v3)] [] := by
  intro n
  induction n with
  | zero =>
    intro v1 v2 v3 z hw
    exact hw.elim
  | succ n ih =>
    intro v1 v2 v3 z hw
    unfold w_X4_countOf_4 at hw
    refine V_iload_n hc d_X4_countOf_4 rfl 3 rfl ?_
    refine V_aload_n hc d_X4_countOf_5 rfl 0 rfl ?_
    refine V_get (v := .ref (a 16)) hc uin_X4 4 eX_4 rfl 3 (by decide) k_211 rfl d_X4_countOf_6 ?_
    refine V_alen (v := (Int32.ofNat K)) hc 16 1 eX_16 rfl rfl d_X4_countOf_9 ?_
    refine V_icmp_ge (tgt := 31) hc d_X4_countOf_10 rfl (fun h => ?_) (fun h => ?_)
    · replace hw := hw.1 h
      refine V_iload_n hc d_X4_countOf_31 rfl 2 rfl ?_
      exact V_iret hc NS_nest hr hw d_X4_countOf_32
    · replace hw := hw.2 h
      refine V_aload_n hc d_X4_countOf_13 rfl 0 rfl ?_
      refine V_iload_n hc d_X4_countOf_14 rfl 3 rfl ?_
      refine V_iload_n hc d_X4_countOf_15 rfl 1 rfl ?_
      refine V_callVi (As := [.int v3, .int v1]) (st := []) hc TS_good NS_nest (fun _ h => h) (c_X4_isOfGroup l K cA D a v3 v1 z) k_557 k_8 k_560 k_559 kp_X4_isOfGroup 4 eX_4 rfl q_X4_isOfGroup (by decide) (Nat.zero_le _) (Nat.zero_le _) rfl (Nat.le_of_ble_eq_true rfl) d_X4_countOf_16 hw (fun r1 u2 hw => ?_)
      try dsimp only at hw
      refine V_if_eq (tgt := 25) hc d_X4_countOf_19 rfl (fun h => ?_) (fun h => ?_)
      · replace hw := hw.1 h
        refine V_iinc (v := (v3 + 1)) hc [(3, .int (v3 + 1)), (0, .ref (a 4)), (1, .int v1), (2, .int v2)] d_X4_countOf_25 3 rfl (by rfl) (by decide) rfl ?_
        refine V_goto (tgt := 4) hc d_X4_countOf_28 rfl ?_
        refine V_sub [1, 2, 3, 0] [(0, .ref (a 4)), (1, .int v1), (2, .int v2), (3, .int (v3 + 1))] rfl ?_
        exact ih v1 v2 (v3 + 1) u2 hw
      · replace hw := hw.2 h
        refine V_iinc (v := (v2 + 1)) hc [(2, .int (v2 + 1)), (0, .ref (a 4)), (1, .int v1), (3, .int v3)] d_X4_countOf_22 2 rfl (by rfl) (by decide) rfl ?_
        refine V_iinc (v := (v3 + 1)) hc [(3, .int (v3 + 1)), (2, .int (v2 + 1)), (0, .ref (a 4)), (1, .int v1)] d_X4_countOf_25 3 rfl (by rfl) (by decide) rfl ?_
        refine V_goto (tgt := 4) hc d_X4_countOf_28 rfl ?_
        refine V_sub [2, 3, 1, 0] [(0, .ref (a 4)), (1, .int v1), (2, .int (v2 + 1)), (3, .int (v3 + 1))] rfl ?_
        exact ih v1 (v2 + 1) (v3 + 1) u2 hw
set_option maxHeartbeats 4000000 in
set_option maxRecDepth 100000 in
theorem c_X4_countOf (l : Launch) (K : Nat) (cA : Nat → ClassId) (D : va_G) (a : Nat → Nat) (x1 : Int32) (z : St) : Ct l NS CL D (tyX cA) 23 a (WX K cA a) mkI y_X4_countOf (.code y_X4_countOf b_X4_countOf 4 (some .int) :: TS) { frames := 2, cells := 0, slots := 0, locals := 43 } [.ref (a 4), .int x1] z (w_X4_countOf K x1 z) := by
  refine Ct.of (by decide) (Nat.le_of_ble_eq_true rfl) adX ?_
  intro Q p e s m args below meth c hc hr hw
  unfold w_X4_countOf at hw
  refine V_st _ [(0, .ref (a 4)), (1, .int x1)] _ rfl rfl rfl ?_
  refine V_iconst (v := 0) hc d_X4_countOf_0 (by decide) ?_
  refine V_istore_n hc [(2, .int 0), (0, .ref (a 4)), (1, .int x1)] d_X4_countOf_1 rfl (by decide) rfl ?_
  refine V_iconst (v := 0) hc d_X4_countOf_2 (by decide) ?_
  refine V_istore_n hc [(3, .int 0), (2, .int 0), (0, .ref (a 4)), (1, .int x1)] d_X4_countOf_3 rfl (by decide) rfl ?_
  obtain ⟨n9, hw⟩ := hw
  refine V_sub [2, 3, 1, 0] [(0, .ref (a 4)), (1, .int x1), (2, .int 0), (3, .int 0)] rfl ?_
  exact l_X4_countOf_4 l K cA D a Q p e s m args below meth c hc hr n9 x1 0 0 z hw
def w_X0_view (K : Nat) (x1 : Int32) (x2 : Int32) (z : St) (Q : Int64 → St → Prop) : Prop :=
  w_X0_isGroup K x1 z (fun r1 u2 => ((¬ r1 = 0 → ((x2 = 0 → w_X4_countOf K x1 z (fun r3 u4 => Q ((r3 : Int32).toInt64) u4)) ∧ (¬ x2 = 0 → w_X4_sumOf K x1 z (fun r5 u6 => Q r5 u6)))) ∧ (r1 = 0 → Q 0 z)))
set_option maxHeartbeats 4000000 in
set_option maxRecDepth 100000 in
theorem c_X0_view (l : Launch) (K : Nat) (cA : Nat → ClassId) (D : va_G) (a : Nat → Nat) (x1 : Int32) (x2 : Int32) (z : St) : Ct l NS CL D (tyX cA) 23 a (WX K cA a) mkL y_X0_view (.code y_X0_view b_X0_view 3 (some .long) :: TS) { frames := 3, cells := 0, slots := 0, locals := 67 } [.ref (a 0), .int x1, .int x2] z (w_X0_view K x1 x2 z) := by
  refine Ct.of (by decide) (Nat.le_of_ble_eq_true rfl) adX ?_
  intro Q p e s m args below meth c hc hr hw
  unfold w_X0_view at hw
  refine V_st _ [(0, .ref (a 0)), (1, .int x1), (2, .int x2)] _ rfl rfl rfl ?_
  refine V_iload_n hc d_X0_view_0 rfl 1 rfl ?_
  refine V_callSi (b := 0) (As := [.int x1]) (st := []) hc TS_good NS_nest (fun _ h => Or.inr h) (c_X0_isGroup l K cA D a x1 z) k_293 k_1 k_295 k_294 q_X0_isGroup (by decide) (Nat.zero_le _) (Nat.zero_le _) rfl (Nat.le_of_ble_eq_true rfl) d_X0_view_1 hw (fun r1 u2 hw => ?_)
  try dsimp only at hw
  refine V_if_ne (tgt := 9) hc d_X0_view_4 rfl (fun h => ?_) (fun h => ?_)
  · replace hw := hw.1 h
    refine V_iload_n hc d_X0_view_9 rfl 2 rfl ?_
    refine V_if_eq (tgt := 24) hc d_X0_view_10 rfl (fun h => ?_) (fun h => ?_)
    · replace hw := hw.1 h
      refine V_aload_n hc d_X0_view_24 rfl 0 rfl ?_
      refine V_get (v := .ref (a 4)) hc uin_X0 0 eX_0 rfl 4 (by decide) k_237 rfl d_X0_view_25 ?_
      refine V_iload_n hc d_X0_view_28 rfl 1 rfl ?_
      refine V_callVi (As := [.int x1]) (st := []) hc TS_good NS_nest (fun _ h => h) (c_X4_countOf l K cA D a x1 z) k_564 k_8 k_567 k_565 k_566 4 eX_4 rfl q_X4_countOf (by decide) (Nat.zero_le _) (Nat.zero_le _) rfl (Nat.le_of_ble_eq_true rfl) d_X0_view_29 hw (fun r3 u4 hw => ?_)
      try dsimp only at hw
      refine V_i2l hc d_X0_view_32 rfl ?_
      exact V_lret hc NS_nest hr hw d_X0_view_33
    · replace hw := hw.2 h
      refine V_aload_n hc d_X0_view_13 rfl 0 rfl ?_
      refine V_get (v := .ref (a 4)) hc uin_X0 0 eX_0 rfl 4 (by decide) k_237 rfl d_X0_view_14 ?_
      refine V_iload_n hc d_X0_view_17 rfl 1 rfl ?_
      refine V_callVl (As := [.int x1]) (st := []) hc TS_good NS_nest (fun _ h => h) (c_X4_sumOf l K cA D a x1 z) k_553 k_8 k_556 k_554 k_555 4 eX_4 rfl q_X4_sumOf (by decide) (Nat.zero_le _) (Nat.zero_le _) rfl (Nat.le_of_ble_eq_true rfl) d_X0_view_18 hw (fun r5 u6 hw => ?_)
      try dsimp only at hw
      refine V_goto (tgt := 33) hc d_X0_view_21 rfl ?_
      exact V_lret hc NS_nest hr hw d_X0_view_33
  · replace hw := hw.2 h
    refine V_lconst (v := 0) hc d_X0_view_7 (by decide) ?_
    exact V_lret hc NS_nest hr hw d_X0_view_8
def w_X0_position (K : Nat)  (z : St) (Q : Int32 → St → Prop) : Prop :=
  Q (g_I z 17) z
set_option maxHeartbeats 4000000 in
set_option maxRecDepth 100000 in
theorem c_X0_position (l : Launch) (K : Nat) (cA : Nat → ClassId) (D : va_G) (a : Nat → Nat)  (z : St) : Ct l NS CL D (tyX cA) 23 a (WX K cA a) mkI y_X0_position (.code y_X0_position b_X0_position 1 (some .int) :: TS) { frames := 0, cells := 0, slots := 0, locals := 0 } [.ref (a 0)] z (w_X0_position K  z) := by
  refine Ct.of (by decide) (Nat.le_of_ble_eq_true rfl) adX ?_
  intro Q p e s m args below meth c hc hr hw
  unfold w_X0_position at hw
  refine V_st _ [(0, .ref (a 0))] _ rfl rfl rfl ?_
  refine V_aload_n hc d_X0_position_0 rfl 0 rfl ?_
  refine V_get (v := .ref (a 4)) hc uin_X0 0 eX_0 rfl 4 (by decide) k_237 rfl d_X0_position_1 ?_
  refine V_getN (v := .int (g_I z 17)) hc uin_X4 4 eX_4 rfl 5 (by decide) k_215 rfl d_X0_position_4 ?_
  exact V_iret hc NS_nest hr hw d_X0_position_7
def w_X0_progress (K : Nat)  (z : St) (Q : Int32 → St → Prop) : Prop :=
  Q (g_I z 18) z
set_option maxHeartbeats 4000000 in
set_option maxRecDepth 100000 in
theorem c_X0_progress (l : Launch) (K : Nat) (cA : Nat → ClassId) (D : va_G) (a : Nat → Nat)  (z : St) : Ct l NS CL D (tyX cA) 23 a (WX K cA a) mkI y_X0_progress (.code y_X0_progress b_X0_progress 1 (some .int) :: TS) { frames := 0, cells := 0, slots := 0, locals := 0 } [.ref (a 0)] z (w_X0_progress K  z) := by
  refine Ct.of (by decide) (Nat.le_of_ble_eq_true rfl) adX ?_
  intro Q p e s m args below meth c hc hr hw
  unfold w_X0_progress at hw
  refine V_st _ [(0, .ref (a 0))] _ rfl rfl rfl ?_
  refine V_aload_n hc d_X0_progress_0 rfl 0 rfl ?_
  refine V_get (v := .ref (a 4)) hc uin_X0 0 eX_0 rfl 4 (by decide) k_237 rfl d_X0_progress_1 ?_
  refine V_getN (v := .int (g_I z 18)) hc uin_X4 4 eX_4 rfl 6 (by decide) k_217 rfl d_X0_progress_4 ?_
  exact V_iret hc NS_nest hr hw d_X0_progress_7
