def w_M0_lockedFor (K : Nat) (x1 : Int32) (x2 : Int32) (z : St) (Q : Int32 → St → Prop) : Prop :=
  (vp_in x2 12 ∧ (((g_A z 9 (x2 : Int32).toNatClampNeg) < 0 → Q 0 z) ∧ (¬ (g_A z 9 (x2 : Int32).toNatClampNeg) < 0 → (vp_in x2 12 ∧ (((g_A z 9 (x2 : Int32).toNatClampNeg) = x1 → Q 0 z) ∧ (¬ (g_A z 9 (x2 : Int32).toNatClampNeg) = x1 → Q 1 z))))))
set_option maxHeartbeats 4000000 in
set_option maxRecDepth 100000 in
theorem c_M0_lockedFor (l : Launch) (K : Nat) (cA : Nat → ClassId) (D : va_G) (a : Nat → Nat) (x1 : Int32) (x2 : Int32) (z : St) : Ct l NS CL D (tyX cA) 19 a (WM K cA a) mkI y_M0_lockedFor (.code y_M0_lockedFor b_M0_lockedFor 3 (some .boolean) :: TS) { frames := 0, cells := 0, slots := 0, locals := 0 } [.ref (a 0), .int x1, .int x2] z (w_M0_lockedFor K x1 x2 z) := by
  refine Ct.of (by decide) (Nat.le_of_ble_eq_true rfl) adM ?_
  intro Q p e s m args below meth c hc hr hw
  unfold w_M0_lockedFor at hw
  refine V_st _ [(0, .ref (a 0)), (1, .int x1), (2, .int x2)] _ rfl rfl rfl ?_
  refine V_aload_n hc d_M0_lockedFor_0 rfl 0 rfl ?_
  refine V_get (v := .ref (a 10)) hc uin_M0 0 eM_0 rfl 16 (by decide) k_601 rfl d_M0_lockedFor_1 ?_
  refine V_iload_n hc d_M0_lockedFor_4 rfl 2 rfl ?_
  obtain ⟨hi, hw⟩ := hw
  refine V_iald (x := g_A z 9 (x2 : Int32).toNatClampNeg) hc 10 0 eM_10 rfl hi rfl d_M0_lockedFor_5 ?_
  refine V_if_lt (tgt := 23) hc d_M0_lockedFor_6 rfl (fun h => ?_) (fun h => ?_)
  · replace hw := hw.1 h
    refine V_iconst (v := 0) hc d_M0_lockedFor_23 (by decide) ?_
    exact V_zret hc NS_nest hr (by decide) hw d_M0_lockedFor_24
  · replace hw := hw.2 h
    refine V_aload_n hc d_M0_lockedFor_9 rfl 0 rfl ?_
    refine V_get (v := .ref (a 10)) hc uin_M0 0 eM_0 rfl 16 (by decide) k_601 rfl d_M0_lockedFor_10 ?_
    refine V_iload_n hc d_M0_lockedFor_13 rfl 2 rfl ?_
    obtain ⟨hi, hw⟩ := hw
    refine V_iald (x := g_A z 9 (x2 : Int32).toNatClampNeg) hc 10 0 eM_10 rfl hi rfl d_M0_lockedFor_14 ?_
    refine V_iload_n hc d_M0_lockedFor_15 rfl 1 rfl ?_
    refine V_icmp_eq (tgt := 23) hc d_M0_lockedFor_16 rfl (fun h => ?_) (fun h => ?_)
    · replace hw := hw.1 h
      refine V_iconst (v := 0) hc d_M0_lockedFor_23 (by decide) ?_
      exact V_zret hc NS_nest hr (by decide) hw d_M0_lockedFor_24
    · replace hw := hw.2 h
      refine V_iconst (v := 1) hc d_M0_lockedFor_19 (by decide) ?_
      refine V_goto (tgt := 24) hc d_M0_lockedFor_20 rfl ?_
      exact V_zret hc NS_nest hr (by decide) hw d_M0_lockedFor_24
def w_M0_lock (K : Nat) (x1 : Int32) (x2 : Int32) (z : St) (Q : Int32 → St → Prop) : Prop :=
  w_M0_isOpen K x1 z (fun r1 u2 => ((r1 = 0 → Q (-2) u2) ∧ (¬ r1 = 0 → w_M0_isKey K x2 u2 (fun r3 u4 => ((¬ r3 = 0 → w_M0_lockedFor K x1 x2 u4 (fun r5 u6 => ((r5 = 0 → (vp_in x2 12 ∧ Q 0 (s_A u6 9 (x2 : Int32).toNatClampNeg x1))) ∧ (¬ r5 = 0 → Q (-3) u6)))) ∧ (r3 = 0 → Q (-2) u4))))))
set_option maxHeartbeats 4000000 in
set_option maxRecDepth 100000 in
theorem c_M0_lock (l : Launch) (K : Nat) (cA : Nat → ClassId) (D : va_G) (a : Nat → Nat) (x1 : Int32) (x2 : Int32) (z : St) : Ct l NS CL D (tyX cA) 19 a (WM K cA a) mkI y_M0_lock (.code y_M0_lock b_M0_lock 3 (some .int) :: TS) { frames := 1, cells := 0, slots := 0, locals := 23 } [.ref (a 0), .int x1, .int x2] z (w_M0_lock K x1 x2 z) := by
  refine Ct.of (by decide) (Nat.le_of_ble_eq_true rfl) adM ?_
  intro Q p e s m args below meth c hc hr hw
  unfold w_M0_lock at hw
  refine V_st _ [(0, .ref (a 0)), (1, .int x1), (2, .int x2)] _ rfl rfl rfl ?_
  refine V_aload_n hc d_M0_lock_0 rfl 0 rfl ?_
  refine V_iload_n hc d_M0_lock_1 rfl 1 rfl ?_
  refine V_callVi (As := [.int x1]) (st := []) hc TS_good NS_nest (fun _ h => h) (c_M0_isOpen l K cA D a x1 z) k_769 k_10 k_772 k_771 kp_M0_isOpen 0 eM_0 rfl q_M0_isOpen (by decide) (Nat.zero_le _) (Nat.zero_le _) rfl (Nat.le_of_ble_eq_true rfl) d_M0_lock_2 hw (fun r1 u2 hw => ?_)
  try dsimp only at hw
  refine V_if_eq (tgt := 16) hc d_M0_lock_5 rfl (fun h => ?_) (fun h => ?_)
  · replace hw := hw.1 h
    refine V_bipush (v := (-2)) hc d_M0_lock_16 (by decide) ?_
    exact V_iret hc NS_nest hr hw d_M0_lock_18
  · replace hw := hw.2 h
    refine V_aload_n hc d_M0_lock_8 rfl 0 rfl ?_
    refine V_iload_n hc d_M0_lock_9 rfl 2 rfl ?_
    refine V_callVi (As := [.int x2]) (st := []) hc TS_good NS_nest (fun _ h => h) (c_M0_isKey l K cA D a x2 u2) k_707 k_10 k_710 k_709 kp_M0_isKey 0 eM_0 rfl q_M0_isKey (by decide) (Nat.zero_le _) (Nat.zero_le _) rfl (Nat.le_of_ble_eq_true rfl) d_M0_lock_10 hw (fun r3 u4 hw => ?_)
    try dsimp only at hw
    refine V_if_ne (tgt := 19) hc d_M0_lock_13 rfl (fun h => ?_) (fun h => ?_)
    · replace hw := hw.1 h
      refine V_aload_n hc d_M0_lock_19 rfl 0 rfl ?_
      refine V_iload_n hc d_M0_lock_20 rfl 1 rfl ?_
      refine V_iload_n hc d_M0_lock_21 rfl 2 rfl ?_
      refine V_callVi (As := [.int x1, .int x2]) (st := []) hc TS_good NS_nest (fun _ h => h) (c_M0_lockedFor l K cA D a x1 x2 u4) k_773 k_10 k_776 k_775 kp_M0_lockedFor 0 eM_0 rfl q_M0_lockedFor (by decide) (Nat.zero_le _) (Nat.zero_le _) rfl (Nat.le_of_ble_eq_true rfl) d_M0_lock_22 hw (fun r5 u6 hw => ?_)
      try dsimp only at hw
      refine V_if_eq (tgt := 31) hc d_M0_lock_25 rfl (fun h => ?_) (fun h => ?_)
      · replace hw := hw.1 h
        refine V_aload_n hc d_M0_lock_31 rfl 0 rfl ?_
        refine V_get (v := .ref (a 10)) hc uin_M0 0 eM_0 rfl 16 (by decide) k_601 rfl d_M0_lock_32 ?_
        refine V_iload_n hc d_M0_lock_35 rfl 2 rfl ?_
        refine V_iload_n hc d_M0_lock_36 rfl 1 rfl ?_
        obtain ⟨hi, hw⟩ := hw
        refine V_iast hc 10 0 eM_10 rfl hi sM_10 d_M0_lock_37 ?_
        refine V_iconst (v := 0) hc d_M0_lock_38 (by decide) ?_
        exact V_iret hc NS_nest hr hw d_M0_lock_39
      · replace hw := hw.2 h
        refine V_bipush (v := (-3)) hc d_M0_lock_28 (by decide) ?_
        exact V_iret hc NS_nest hr hw d_M0_lock_30
    · replace hw := hw.2 h
      refine V_bipush (v := (-2)) hc d_M0_lock_16 (by decide) ?_
      exact V_iret hc NS_nest hr hw d_M0_lock_18
def w_M0_write (K : Nat) (x1 : Int32) (x2 : Int32) (x3 : Int32) (z : St) (Q : Int32 → St → Prop) : Prop :=
  (vp_in (g_I z 4) 160 ∧ (vp_in (g_I z 4) 160 ∧ (vp_in (g_I z 4) 160 ∧ Q ((g_I z 4 + 1) - 1) (s_I (s_A (s_A (s_A z 0 (g_I z 4 : Int32).toNatClampNeg x1) 1 (g_I z 4 : Int32).toNatClampNeg x2) 2 (g_I z 4 : Int32).toNatClampNeg x3) 4 (g_I z 4 + 1)))))
set_option maxHeartbeats 4000000 in
set_option maxRecDepth 100000 in
theorem c_M0_write (l : Launch) (K : Nat) (cA : Nat → ClassId) (D : va_G) (a : Nat → Nat) (x1 : Int32) (x2 : Int32) (x3 : Int32) (z : St) : Ct l NS CL D (tyX cA) 19 a (WM K cA a) mkI y_M0_write (.code y_M0_write b_M0_write 4 (some .int) :: TS) { frames := 0, cells := 0, slots := 0, locals := 0 } [.ref (a 0), .int x1, .int x2, .int x3] z (w_M0_write K x1 x2 x3 z) := by
  refine Ct.of (by decide) (Nat.le_of_ble_eq_true rfl) adM ?_
  intro Q p e s m args below meth c hc hr hw
  unfold w_M0_write at hw
  refine V_st _ [(0, .ref (a 0)), (1, .int x1), (2, .int x2), (3, .int x3)] _ rfl rfl rfl ?_
  refine V_aload_n hc d_M0_write_0 rfl 0 rfl ?_
  refine V_get (v := .ref (a 1)) hc uin_M0 0 eM_0 rfl 5 (by decide) k_590 rfl d_M0_write_1 ?_
  refine V_aload_n hc d_M0_write_4 rfl 0 rfl ?_
  refine V_get (v := .int (g_I z 4)) hc uin_M0 0 eM_0 rfl 4 (by decide) k_589 rfl d_M0_write_5 ?_
  refine V_iload_n hc d_M0_write_8 rfl 1 rfl ?_
  obtain ⟨hi, hw⟩ := hw
  refine V_iast hc 1 0 eM_1 rfl hi sM_1 d_M0_write_9 ?_
  refine V_aload_n hc d_M0_write_10 rfl 0 rfl ?_
  refine V_get (v := .ref (a 2)) hc uin_M0 0 eM_0 rfl 6 (by decide) k_591 rfl d_M0_write_11 ?_
  refine V_aload_n hc d_M0_write_14 rfl 0 rfl ?_
  refine V_get (v := .int (g_I z 4)) hc uin_M0 0 eM_0 rfl 4 (by decide) k_589 rfl d_M0_write_15 ?_
  refine V_iload_n hc d_M0_write_18 rfl 2 rfl ?_
  obtain ⟨hi, hw⟩ := hw
  refine V_iast hc 2 0 eM_2 rfl hi sM_2 d_M0_write_19 ?_
  refine V_aload_n hc d_M0_write_20 rfl 0 rfl ?_
  refine V_get (v := .ref (a 3)) hc uin_M0 0 eM_0 rfl 7 (by decide) k_592 rfl d_M0_write_21 ?_
  refine V_aload_n hc d_M0_write_24 rfl 0 rfl ?_
  refine V_get (v := .int (g_I z 4)) hc uin_M0 0 eM_0 rfl 4 (by decide) k_589 rfl d_M0_write_25 ?_
  refine V_iload_n hc d_M0_write_28 rfl 3 rfl ?_
  obtain ⟨hi, hw⟩ := hw
  refine V_iast hc 3 0 eM_3 rfl hi sM_3 d_M0_write_29 ?_
  refine V_aload_n hc d_M0_write_30 rfl 0 rfl ?_
  refine V_dup hc d_M0_write_31 rfl ?_
  refine V_get (v := .int (g_I z 4)) hc uin_M0 0 eM_0 rfl 4 (by decide) k_589 rfl d_M0_write_32 ?_
  refine V_iconst (v := 1) hc d_M0_write_35 (by decide) ?_
  refine V_iadd hc d_M0_write_36 rfl ?_
  refine V_put (ty := .int) hc uin_M0 0 eM_0 rfl 4 (by decide) t_M0 t_M0_ok n_M0 k_589 rfl (by decide +kernel) rfl rfl (Nat.le_of_ble_eq_true rfl) iM_4 d_M0_write_37 ?_
  refine V_aload_n hc d_M0_write_40 rfl 0 rfl ?_
  refine V_get (v := .int (g_I z 4 + 1)) hc uin_M0 0 eM_0 rfl 4 (by decide) k_589 rfl d_M0_write_41 ?_
  refine V_iconst (v := 1) hc d_M0_write_44 (by decide) ?_
  refine V_isub hc d_M0_write_45 rfl ?_
  exact V_iret hc NS_nest hr hw d_M0_write_46
def w_M0_put (K : Nat) (x1 : Int32) (x2 : Int32) (x3 : Int32) (x4 : Int32) (z : St) (Q : Int32 → St → Prop) : Prop :=
  w_M0_isOpen K x1 z (fun r1 u2 => ((r1 = 0 → Q (-2) u2) ∧ (¬ r1 = 0 → w_M0_isKey K x2 u2 (fun r3 u4 => ((r3 = 0 → Q (-2) u4) ∧ (¬ r3 = 0 → ((x3 < 0 → Q (-2) u4) ∧ (¬ x3 < 0 → ((x3 ≤ 3 → w_M0_lockedFor K x1 x2 u4 (fun r5 u6 => ((r5 = 0 → w_M0_room K 1 0 u6 (fun r7 u8 => ((¬ r7 = 0 → w_M0_write K 1 x1 x2 u8 (fun r9 u10 => (vp_in r9 160 ∧ (vp_in r9 160 ∧ (vp_in x2 12 ∧ Q 0 (s_A (s_A (s_A u10 3 (r9 : Int32).toNatClampNeg x3) 4 (r9 : Int32).toNatClampNeg x4) 9 (x2 : Int32).toNatClampNeg x1)))))) ∧ (r7 = 0 → Q (-4) u8)))) ∧ (¬ r5 = 0 → Q (-3) u6)))) ∧ (¬ x3 ≤ 3 → Q (-2) u4))))))))))
set_option maxHeartbeats 4000000 in
set_option maxRecDepth 100000 in
theorem c_M0_put (l : Launch) (K : Nat) (cA : Nat → ClassId) (D : va_G) (a : Nat → Nat) (x1 : Int32) (x2 : Int32) (x3 : Int32) (x4 : Int32) (z : St) : Ct l NS CL D (tyX cA) 19 a (WM K cA a) mkI y_M0_put (.code y_M0_put b_M0_put 6 (some .int) :: TS) { frames := 1, cells := 0, slots := 0, locals := 23 } [.ref (a 0), .int x1, .int x2, .int x3, .int x4] z (w_M0_put K x1 x2 x3 x4 z) := by
  refine Ct.of (by decide) (Nat.le_of_ble_eq_true rfl) adM ?_
  intro Q p e s m args below meth c hc hr hw
  unfold w_M0_put at hw
  refine V_st _ [(0, .ref (a 0)), (1, .int x1), (2, .int x2), (3, .int x3), (4, .int x4)] _ rfl rfl rfl ?_
  refine V_aload_n hc d_M0_put_0 rfl 0 rfl ?_
  refine V_iload_n hc d_M0_put_1 rfl 1 rfl ?_
  refine V_callVi (As := [.int x1]) (st := []) hc TS_good NS_nest (fun _ h => h) (c_M0_isOpen l K cA D a x1 z) k_769 k_10 k_772 k_771 kp_M0_isOpen 0 eM_0 rfl q_M0_isOpen (by decide) (Nat.zero_le _) (Nat.zero_le _) rfl (Nat.le_of_ble_eq_true rfl) d_M0_put_2 hw (fun r1 u2 hw => ?_)
  try dsimp only at hw
  refine V_if_eq (tgt := 25) hc d_M0_put_5 rfl (fun h => ?_) (fun h => ?_)
  · replace hw := hw.1 h
    refine V_bipush (v := (-2)) hc d_M0_put_25 (by decide) ?_
    exact V_iret hc NS_nest hr hw d_M0_put_27
  · replace hw := hw.2 h
    refine V_aload_n hc d_M0_put_8 rfl 0 rfl ?_
    refine V_iload_n hc d_M0_put_9 rfl 2 rfl ?_
    refine V_callVi (As := [.int x2]) (st := []) hc TS_good NS_nest (fun _ h => h) (c_M0_isKey l K cA D a x2 u2) k_707 k_10 k_710 k_709 kp_M0_isKey 0 eM_0 rfl q_M0_isKey (by decide) (Nat.zero_le _) (Nat.zero_le _) rfl (Nat.le_of_ble_eq_true rfl) d_M0_put_10 hw (fun r3 u4 hw => ?_)
    try dsimp only at hw
    refine V_if_eq (tgt := 25) hc d_M0_put_13 rfl (fun h => ?_) (fun h => ?_)
    · replace hw := hw.1 h
      refine V_bipush (v := (-2)) hc d_M0_put_25 (by decide) ?_
      exact V_iret hc NS_nest hr hw d_M0_put_27
    · replace hw := hw.2 h
      refine V_iload_n hc d_M0_put_16 rfl 3 rfl ?_
      refine V_if_lt (tgt := 25) hc d_M0_put_17 rfl (fun h => ?_) (fun h => ?_)
      · replace hw := hw.1 h
        refine V_bipush (v := (-2)) hc d_M0_put_25 (by decide) ?_
        exact V_iret hc NS_nest hr hw d_M0_put_27
      · replace hw := hw.2 h
        refine V_iload_n hc d_M0_put_20 rfl 3 rfl ?_
        refine V_iconst (v := 3) hc d_M0_put_21 (by decide) ?_
        refine V_icmp_le (tgt := 28) hc d_M0_put_22 rfl (fun h => ?_) (fun h => ?_)
        · replace hw := hw.1 h
          refine V_aload_n hc d_M0_put_28 rfl 0 rfl ?_
          refine V_iload_n hc d_M0_put_29 rfl 1 rfl ?_
          refine V_iload_n hc d_M0_put_30 rfl 2 rfl ?_
          refine V_callVi (As := [.int x1, .int x2]) (st := []) hc TS_good NS_nest (fun _ h => h) (c_M0_lockedFor l K cA D a x1 x2 u4) k_773 k_10 k_776 k_775 kp_M0_lockedFor 0 eM_0 rfl q_M0_lockedFor (by decide) (Nat.zero_le _) (Nat.zero_le _) rfl (Nat.le_of_ble_eq_true rfl) d_M0_put_31 hw (fun r5 u6 hw => ?_)
          try dsimp only at hw
          refine V_if_eq (tgt := 40) hc d_M0_put_34 rfl (fun h => ?_) (fun h => ?_)
          · replace hw := hw.1 h
            refine V_aload_n hc d_M0_put_40 rfl 0 rfl ?_
            refine V_iconst (v := 1) hc d_M0_put_41 (by decide) ?_
            refine V_iconst (v := 0) hc d_M0_put_42 (by decide) ?_
            refine V_callVi (As := [.int 1, .int 0]) (st := []) hc TS_good NS_nest (fun _ h => h) (c_M0_room l K cA D a 1 0 u6) k_761 k_10 k_764 k_763 kp_M0_room 0 eM_0 rfl q_M0_room (by decide) (Nat.zero_le _) (Nat.zero_le _) rfl (Nat.le_of_ble_eq_true rfl) d_M0_put_43 hw (fun r7 u8 hw => ?_)
            try dsimp only at hw
            refine V_if_ne (tgt := 52) hc d_M0_put_46 rfl (fun h => ?_) (fun h => ?_)
            · replace hw := hw.1 h
              refine V_aload_n hc d_M0_put_52 rfl 0 rfl ?_
              refine V_iconst (v := 1) hc d_M0_put_53 (by decide) ?_
              refine V_iload_n hc d_M0_put_54 rfl 1 rfl ?_
              refine V_iload_n hc d_M0_put_55 rfl 2 rfl ?_
              refine V_callVi (As := [.int 1, .int x1, .int x2]) (st := []) hc TS_good NS_nest (fun _ h => h) (c_M0_write l K cA D a 1 x1 x2 u8) k_781 k_10 k_784 k_783 kp_M0_write 0 eM_0 rfl q_M0_write (by decide) (Nat.zero_le _) (Nat.zero_le _) rfl (Nat.le_of_ble_eq_true rfl) d_M0_put_56 hw (fun r9 u10 hw => ?_)
              try dsimp only at hw
              refine V_istore hc [(5, .int r9), (0, .ref (a 0)), (1, .int x1), (2, .int x2), (3, .int x3), (4, .int x4)] d_M0_put_59 (by decide) rfl ?_
              refine V_aload_n hc d_M0_put_61 rfl 1 rfl ?_
              refine V_get (v := .ref (a 4)) hc uin_M0 0 eM_0 rfl 8 (by decide) k_593 rfl d_M0_put_62 ?_
              refine V_iload hc d_M0_put_65 0 rfl ?_
              refine V_iload_n hc d_M0_put_67 rfl 4 rfl ?_
              obtain ⟨hi, hw⟩ := hw
              refine V_iast hc 4 0 eM_4 rfl hi sM_4 d_M0_put_68 ?_
              refine V_aload_n hc d_M0_put_69 rfl 1 rfl ?_
              refine V_get (v := .ref (a 5)) hc uin_M0 0 eM_0 rfl 9 (by decide) k_594 rfl d_M0_put_70 ?_
              refine V_iload hc d_M0_put_73 0 rfl ?_
              refine V_iload hc d_M0_put_75 5 rfl ?_
              obtain ⟨hi, hw⟩ := hw
              refine V_iast hc 5 0 eM_5 rfl hi sM_5 d_M0_put_77 ?_
              refine V_aload_n hc d_M0_put_78 rfl 1 rfl ?_
              refine V_get (v := .ref (a 10)) hc uin_M0 0 eM_0 rfl 16 (by decide) k_601 rfl d_M0_put_79 ?_
              refine V_iload_n hc d_M0_put_82 rfl 3 rfl ?_
              refine V_iload_n hc d_M0_put_83 rfl 2 rfl ?_
              obtain ⟨hi, hw⟩ := hw
              refine V_iast hc 10 0 eM_10 rfl hi sM_10 d_M0_put_84 ?_
              refine V_iconst (v := 0) hc d_M0_put_85 (by decide) ?_
              exact V_iret hc NS_nest hr hw d_M0_put_86
            · replace hw := hw.2 h
              refine V_bipush (v := (-4)) hc d_M0_put_49 (by decide) ?_
              exact V_iret hc NS_nest hr hw d_M0_put_51
          · replace hw := hw.2 h
            refine V_bipush (v := (-3)) hc d_M0_put_37 (by decide) ?_
            exact V_iret hc NS_nest hr hw d_M0_put_39
        · replace hw := hw.2 h
          refine V_bipush (v := (-2)) hc d_M0_put_25 (by decide) ?_
          exact V_iret hc NS_nest hr hw d_M0_put_27
def w_M0_row (K : Nat) (x1 : Int32) (x2 : Int32) (z : St) (Q : Int64 → St → Prop) : Prop :=
  w_M0_isKey K x2 z (fun r1 u2 => ((r1 = 0 → Q (-1) u2) ∧ (¬ r1 = 0 → ((x1 = (-1) → ((0 ≤ x1 → w_M0_lastBy K x1 x2 (g_I u2 4) u2 (fun r3 u4 => ((0 ≤ r3 → w_M0_made K r3 u4 (fun r5 u6 => Q r5 u6)) ∧ (¬ 0 ≤ r3 → w_M0_table K x2 (g_I u4 4) u4 (fun r7 u8 => Q r7 u8))))) ∧ (¬ 0 ≤ x1 → w_M0_table K x2 (g_I u2 4) u2 (fun r9 u10 => Q r9 u10)))) ∧ (¬ x1 = (-1) → w_M0_isOpen K x1 u2 (fun r11 u12 => ((¬ r11 = 0 → ((0 ≤ x1 → w_M0_lastBy K x1 x2 (g_I u12 4) u12 (fun r13 u14 => ((0 ≤ r13 → w_M0_made K r13 u14 (fun r15 u16 => Q r15 u16)) ∧ (¬ 0 ≤ r13 → w_M0_table K x2 (g_I u14 4) u14 (fun r17 u18 => Q r17 u18))))) ∧ (¬ 0 ≤ x1 → w_M0_table K x2 (g_I u12 4) u12 (fun r19 u20 => Q r19 u20)))) ∧ (r11 = 0 → Q (-1) u12))))))))
set_option maxHeartbeats 4000000 in
set_option maxRecDepth 100000 in
theorem c_M0_row (l : Launch) (K : Nat) (cA : Nat → ClassId) (D : va_G) (a : Nat → Nat) (x1 : Int32) (x2 : Int32) (z : St) : Ct l NS CL D (tyX cA) 19 a (WM K cA a) mkL y_M0_row (.code y_M0_row b_M0_row 4 (some .long) :: TS) { frames := 3, cells := 0, slots := 0, locals := 66 } [.ref (a 0), .int x1, .int x2] z (w_M0_row K x1 x2 z) := by
  refine Ct.of (by decide) (Nat.le_of_ble_eq_true rfl) adM ?_
  intro Q p e s m args below meth c hc hr hw
  unfold w_M0_row at hw
  refine V_st _ [(0, .ref (a 0)), (1, .int x1), (2, .int x2)] _ rfl rfl rfl ?_
  refine V_aload_n hc d_M0_row_0 rfl 0 rfl ?_
  refine V_iload_n hc d_M0_row_1 rfl 2 rfl ?_
  refine V_callVi (As := [.int x2]) (st := []) hc TS_good NS_nest (fun _ h => h) (c_M0_isKey l K cA D a x2 z) k_707 k_10 k_710 k_709 kp_M0_isKey 0 eM_0 rfl q_M0_isKey (by decide) (Nat.zero_le _) (Nat.zero_le _) rfl (Nat.le_of_ble_eq_true rfl) d_M0_row_2 hw (fun r1 u2 hw => ?_)
  try dsimp only at hw
  refine V_if_eq (tgt := 21) hc d_M0_row_5 rfl (fun h => ?_) (fun h => ?_)
  · replace hw := hw.1 h
    refine V_ldc2 (v := (-1)) hc k_711 d_M0_row_21 ?_
    exact V_lret hc NS_nest hr hw d_M0_row_24
  · replace hw := hw.2 h
    refine V_iload_n hc d_M0_row_8 rfl 1 rfl ?_
    refine V_iconst (v := (-1)) hc d_M0_row_9 (by decide) ?_
    refine V_icmp_eq (tgt := 25) hc d_M0_row_10 rfl (fun h => ?_) (fun h => ?_)
    · replace hw := hw.1 h
      refine V_iload_n hc d_M0_row_25 rfl 1 rfl ?_
      refine V_if_ge (tgt := 33) hc d_M0_row_26 rfl (fun h => ?_) (fun h => ?_)
      · replace hw := hw.1 h
        refine V_aload_n hc d_M0_row_33 rfl 0 rfl ?_
        refine V_iload_n hc d_M0_row_34 rfl 1 rfl ?_
        refine V_iload_n hc d_M0_row_35 rfl 2 rfl ?_
        refine V_aload_n hc d_M0_row_36 rfl 0 rfl ?_
        refine V_get (v := .int (g_I u2 4)) hc uin_M0 0 eM_0 rfl 4 (by decide) k_589 rfl d_M0_row_37 ?_
        refine V_callVi (As := [.int x1, .int x2, .int (g_I u2 4)]) (st := []) hc TS_good NS_nest (fun _ h => h) (c_M0_lastBy l K cA D a x1 x2 (g_I u2 4) u2) k_716 k_10 k_719 k_718 kp_M0_lastBy 0 eM_0 rfl q_M0_lastBy (by decide) (Nat.zero_le _) (Nat.zero_le _) rfl (Nat.le_of_ble_eq_true rfl) d_M0_row_40 hw (fun r3 u4 hw => ?_)
        try dsimp only at hw
        refine V_istore_n hc [(3, .int r3), (0, .ref (a 0)), (1, .int x1), (2, .int x2)] d_M0_row_43 rfl (by decide) rfl ?_
        refine V_iload_n hc d_M0_row_44 rfl 0 rfl ?_
        refine V_if_ge (tgt := 60) hc d_M0_row_45 rfl (fun h => ?_) (fun h => ?_)
        · replace hw := hw.1 h
          refine V_aload_n hc d_M0_row_60 rfl 1 rfl ?_
          refine V_iload_n hc d_M0_row_61 rfl 0 rfl ?_
          refine V_callVl (As := [.int r3]) (st := []) hc TS_good NS_nest (fun _ h => h) (c_M0_made l K cA D a r3 u4) k_728 k_10 k_731 k_730 kp_M0_made 0 eM_0 rfl q_M0_made (by decide) (Nat.zero_le _) (Nat.zero_le _) rfl (Nat.le_of_ble_eq_true rfl) d_M0_row_62 hw (fun r5 u6 hw => ?_)
          try dsimp only at hw
          exact V_lret hc NS_nest hr hw d_M0_row_65
        · replace hw := hw.2 h
          refine V_aload_n hc d_M0_row_48 rfl 1 rfl ?_
          refine V_iload_n hc d_M0_row_49 rfl 3 rfl ?_
          refine V_aload_n hc d_M0_row_50 rfl 1 rfl ?_
          refine V_get (v := .int (g_I u4 4)) hc uin_M0 0 eM_0 rfl 4 (by decide) k_589 rfl d_M0_row_51 ?_
          refine V_callVl (As := [.int x2, .int (g_I u4 4)]) (st := []) hc TS_good NS_nest (fun _ h => h) (c_M0_table l K cA D a x2 (g_I u4 4) u4) k_724 k_10 k_727 k_726 kp_M0_table 0 eM_0 rfl q_M0_table (by decide) (Nat.zero_le _) (Nat.zero_le _) rfl (Nat.le_of_ble_eq_true rfl) d_M0_row_54 hw (fun r7 u8 hw => ?_)
          try dsimp only at hw
          refine V_goto (tgt := 65) hc d_M0_row_57 rfl ?_
          exact V_lret hc NS_nest hr hw d_M0_row_65
      · replace hw := hw.2 h
        refine V_iconst (v := (-1)) hc d_M0_row_29 (by decide) ?_
        refine V_goto (tgt := 43) hc d_M0_row_30 rfl ?_
        refine V_istore_n hc [(3, .int (-1)), (0, .ref (a 0)), (1, .int x1), (2, .int x2)] d_M0_row_43 rfl (by decide) rfl ?_
        refine V_iload_n hc d_M0_row_44 rfl 0 rfl ?_
        refine V_if_ge (tgt := 60) hc d_M0_row_45 rfl (fun h => absurd h (by decide)) (fun _ => ?_)
        refine V_aload_n hc d_M0_row_48 rfl 1 rfl ?_
        refine V_iload_n hc d_M0_row_49 rfl 3 rfl ?_
        refine V_aload_n hc d_M0_row_50 rfl 1 rfl ?_
        refine V_get (v := .int (g_I u2 4)) hc uin_M0 0 eM_0 rfl 4 (by decide) k_589 rfl d_M0_row_51 ?_
        refine V_callVl (As := [.int x2, .int (g_I u2 4)]) (st := []) hc TS_good NS_nest (fun _ h => h) (c_M0_table l K cA D a x2 (g_I u2 4) u2) k_724 k_10 k_727 k_726 kp_M0_table 0 eM_0 rfl q_M0_table (by decide) (Nat.zero_le _) (Nat.zero_le _) rfl (Nat.le_of_ble_eq_true rfl) d_M0_row_54 hw (fun r9 u10 hw => ?_)
        try dsimp only at hw
        refine V_goto (tgt := 65) hc d_M0_row_57 rfl ?_
        exact V_lret hc NS_nest hr hw d_M0_row_65
    · replace hw := hw.2 h
      refine V_aload_n hc d_M0_row_13 rfl 0 rfl ?_
      refine V_iload_n hc d_M0_row_14 rfl 1 rfl ?_
      refine V_callVi (As := [.int x1]) (st := []) hc TS_good NS_nest (fun _ h => h) (c_M0_isOpen l K cA D a x1 u2) k_769 k_10 k_772 k_771 kp_M0_isOpen 0 eM_0 rfl q_M0_isOpen (by decide) (Nat.zero_le _) (Nat.zero_le _) rfl (Nat.le_of_ble_eq_true rfl) d_M0_row_15 hw (fun r11 u12 hw => ?_)
      try dsimp only at hw
      refine V_if_ne (tgt := 25) hc d_M0_row_18 rfl (fun h => ?_) (fun h => ?_)
      · replace hw := hw.1 h
        refine V_iload_n hc d_M0_row_25 rfl 1 rfl ?_
        refine V_if_ge (tgt := 33) hc d_M0_row_26 rfl (fun h => ?_) (fun h => ?_)
        · replace hw := hw.1 h
          refine V_aload_n hc d_M0_row_33 rfl 0 rfl ?_
          refine V_iload_n hc d_M0_row_34 rfl 1 rfl ?_
          refine V_iload_n hc d_M0_row_35 rfl 2 rfl ?_
          refine V_aload_n hc d_M0_row_36 rfl 0 rfl ?_
          refine V_get (v := .int (g_I u12 4)) hc uin_M0 0 eM_0 rfl 4 (by decide) k_589 rfl d_M0_row_37 ?_
          refine V_callVi (As := [.int x1, .int x2, .int (g_I u12 4)]) (st := []) hc TS_good NS_nest (fun _ h => h) (c_M0_lastBy l K cA D a x1 x2 (g_I u12 4) u12) k_716 k_10 k_719 k_718 kp_M0_lastBy 0 eM_0 rfl q_M0_lastBy (by decide) (Nat.zero_le _) (Nat.zero_le _) rfl (Nat.le_of_ble_eq_true rfl) d_M0_row_40 hw (fun r13 u14 hw => ?_)
          try dsimp only at hw
          refine V_istore_n hc [(3, .int r13), (0, .ref (a 0)), (1, .int x1), (2, .int x2)] d_M0_row_43 rfl (by decide) rfl ?_
          refine V_iload_n hc d_M0_row_44 rfl 0 rfl ?_
          refine V_if_ge (tgt := 60) hc d_M0_row_45 rfl (fun h => ?_) (fun h => ?_)
          · replace hw := hw.1 h
            refine V_aload_n hc d_M0_row_60 rfl 1 rfl ?_
            refine V_iload_n hc d_M0_row_61 rfl 0 rfl ?_
            refine V_callVl (As := [.int r13]) (st := []) hc TS_good NS_nest (fun _ h => h) (c_M0_made l K cA D a r13 u14) k_728 k_10 k_731 k_730 kp_M0_made 0 eM_0 rfl q_M0_made (by decide) (Nat.zero_le _) (Nat.zero_le _) rfl (Nat.le_of_ble_eq_true rfl) d_M0_row_62 hw (fun r15 u16 hw => ?_)
            try dsimp only at hw
            exact V_lret hc NS_nest hr hw d_M0_row_65
          · replace hw := hw.2 h
            refine V_aload_n hc d_M0_row_48 rfl 1 rfl ?_
            refine V_iload_n hc d_M0_row_49 rfl 3 rfl ?_
            refine V_aload_n hc d_M0_row_50 rfl 1 rfl ?_
            refine V_get (v := .int (g_I u14 4)) hc uin_M0 0 eM_0 rfl 4 (by decide) k_589 rfl d_M0_row_51 ?_
            refine V_callVl (As := [.int x2, .int (g_I u14 4)]) (st := []) hc TS_good NS_nest (fun _ h => h) (c_M0_table l K cA D a x2 (g_I u14 4) u14) k_724 k_10 k_727 k_726 kp_M0_table 0 eM_0 rfl q_M0_table (by decide) (Nat.zero_le _) (Nat.zero_le _) rfl (Nat.le_of_ble_eq_true rfl) d_M0_row_54 hw (fun r17 u18 hw => ?_)
            try dsimp only at hw
            refine V_goto (tgt := 65) hc d_M0_row_57 rfl ?_
            exact V_lret hc NS_nest hr hw d_M0_row_65
        · replace hw := hw.2 h
          refine V_iconst (v := (-1)) hc d_M0_row_29 (by decide) ?_
          refine V_goto (tgt := 43) hc d_M0_row_30 rfl ?_
          refine V_istore_n hc [(3, .int (-1)), (0, .ref (a 0)), (1, .int x1), (2, .int x2)] d_M0_row_43 rfl (by decide) rfl ?_
          refine V_iload_n hc d_M0_row_44 rfl 0 rfl ?_
          refine V_if_ge (tgt := 60) hc d_M0_row_45 rfl (fun h => absurd h (by decide)) (fun _ => ?_)
          refine V_aload_n hc d_M0_row_48 rfl 1 rfl ?_
          refine V_iload_n hc d_M0_row_49 rfl 3 rfl ?_
          refine V_aload_n hc d_M0_row_50 rfl 1 rfl ?_
          refine V_get (v := .int (g_I u12 4)) hc uin_M0 0 eM_0 rfl 4 (by decide) k_589 rfl d_M0_row_51 ?_
          refine V_callVl (As := [.int x2, .int (g_I u12 4)]) (st := []) hc TS_good NS_nest (fun _ h => h) (c_M0_table l K cA D a x2 (g_I u12 4) u12) k_724 k_10 k_727 k_726 kp_M0_table 0 eM_0 rfl q_M0_table (by decide) (Nat.zero_le _) (Nat.zero_le _) rfl (Nat.le_of_ble_eq_true rfl) d_M0_row_54 hw (fun r19 u20 hw => ?_)
          try dsimp only at hw
          refine V_goto (tgt := 65) hc d_M0_row_57 rfl ?_
          exact V_lret hc NS_nest hr hw d_M0_row_65
      · replace hw := hw.2 h
        refine V_ldc2 (v := (-1)) hc k_711 d_M0_row_21 ?_
        exact V_lret hc NS_nest hr hw d_M0_row_24
def w_M0_remove (K : Nat) (x1 : Int32) (x2 : Int32) (z : St) (Q : Int32 → St → Prop) : Prop :=
  w_M0_isOpen K x1 z (fun r1 u2 => ((r1 = 0 → Q (-2) u2) ∧ (¬ r1 = 0 → w_M0_isKey K x2 u2 (fun r3 u4 => ((¬ r3 = 0 → w_M0_lockedFor K x1 x2 u4 (fun r5 u6 => ((r5 = 0 → w_M0_row K x1 x2 u6 (fun r7 u8 => ((0 ≤ (lg_cmp r7 0) → w_M0_room K 1 0 u8 (fun r9 u10 => ((¬ r9 = 0 → w_M0_write K 2 x1 x2 u10 (fun r11 u12 => (vp_in r11 160 ∧ (vp_in (g_A u12 2 (r11 : Int32).toNatClampNeg) 12 ∧ Q 0 (s_A u12 9 ((g_A u12 2 (r11 : Int32).toNatClampNeg) : Int32).toNatClampNeg x1))))) ∧ (r9 = 0 → Q (-4) u10)))) ∧ (¬ 0 ≤ (lg_cmp r7 0) → Q (-2) u8)))) ∧ (¬ r5 = 0 → Q (-3) u6)))) ∧ (r3 = 0 → Q (-2) u4))))))
set_option maxHeartbeats 4000000 in
set_option maxRecDepth 100000 in
theorem c_M0_remove (l : Launch) (K : Nat) (cA : Nat → ClassId) (D : va_G) (a : Nat → Nat) (x1 : Int32) (x2 : Int32) (z : St) : Ct l NS CL D (tyX cA) 19 a (WM K cA a) mkI y_M0_remove (.code y_M0_remove b_M0_remove 4 (some .int) :: TS) { frames := 4, cells := 0, slots := 0, locals := 89 } [.ref (a 0), .int x1, .int x2] z (w_M0_remove K x1 x2 z) := by
  refine Ct.of (by decide) (Nat.le_of_ble_eq_true rfl) adM ?_
  intro Q p e s m args below meth c hc hr hw
  unfold w_M0_remove at hw
  refine V_st _ [(0, .ref (a 0)), (1, .int x1), (2, .int x2)] _ rfl rfl rfl ?_
  refine V_aload_n hc d_M0_remove_0 rfl 0 rfl ?_
  refine V_iload_n hc d_M0_remove_1 rfl 1 rfl ?_
  refine V_callVi (As := [.int x1]) (st := []) hc TS_good NS_nest (fun _ h => h) (c_M0_isOpen l K cA D a x1 z) k_769 k_10 k_772 k_771 kp_M0_isOpen 0 eM_0 rfl q_M0_isOpen (by decide) (Nat.zero_le _) (Nat.zero_le _) rfl (Nat.le_of_ble_eq_true rfl) d_M0_remove_2 hw (fun r1 u2 hw => ?_)
  try dsimp only at hw
  refine V_if_eq (tgt := 16) hc d_M0_remove_5 rfl (fun h => ?_) (fun h => ?_)
  · replace hw := hw.1 h
    refine V_bipush (v := (-2)) hc d_M0_remove_16 (by decide) ?_
    exact V_iret hc NS_nest hr hw d_M0_remove_18
  · replace hw := hw.2 h
    refine V_aload_n hc d_M0_remove_8 rfl 0 rfl ?_
    refine V_iload_n hc d_M0_remove_9 rfl 2 rfl ?_
    refine V_callVi (As := [.int x2]) (st := []) hc TS_good NS_nest (fun _ h => h) (c_M0_isKey l K cA D a x2 u2) k_707 k_10 k_710 k_709 kp_M0_isKey 0 eM_0 rfl q_M0_isKey (by decide) (Nat.zero_le _) (Nat.zero_le _) rfl (Nat.le_of_ble_eq_true rfl) d_M0_remove_10 hw (fun r3 u4 hw => ?_)
    try dsimp only at hw
    refine V_if_ne (tgt := 19) hc d_M0_remove_13 rfl (fun h => ?_) (fun h => ?_)
    · replace hw := hw.1 h
      refine V_aload_n hc d_M0_remove_19 rfl 0 rfl ?_
      refine V_iload_n hc d_M0_remove_20 rfl 1 rfl ?_
      refine V_iload_n hc d_M0_remove_21 rfl 2 rfl ?_
      refine V_callVi (As := [.int x1, .int x2]) (st := []) hc TS_good NS_nest (fun _ h => h) (c_M0_lockedFor l K cA D a x1 x2 u4) k_773 k_10 k_776 k_775 kp_M0_lockedFor 0 eM_0 rfl q_M0_lockedFor (by decide) (Nat.zero_le _) (Nat.zero_le _) rfl (Nat.le_of_ble_eq_true rfl) d_M0_remove_22 hw (fun r5 u6 hw => ?_)
      try dsimp only at hw
      refine V_if_eq (tgt := 31) hc d_M0_remove_25 rfl (fun h => ?_) (fun h => ?_)
      · replace hw := hw.1 h
        refine V_aload_n hc d_M0_remove_31 rfl 0 rfl ?_
        refine V_iload_n hc d_M0_remove_32 rfl 1 rfl ?_
        refine V_iload_n hc d_M0_remove_33 rfl 2 rfl ?_
        refine V_callVl (As := [.int x1, .int x2]) (st := []) hc TS_good NS_nest (fun _ h => h) (c_M0_row l K cA D a x1 x2 u6) k_789 k_10 k_792 k_790 k_791 0 eM_0 rfl q_M0_row (by decide) (Nat.zero_le _) (Nat.zero_le _) rfl (Nat.le_of_ble_eq_true rfl) d_M0_remove_34 hw (fun r7 u8 hw => ?_)
        try dsimp only at hw
        refine V_lconst (v := 0) hc d_M0_remove_37 (by decide) ?_
        refine V_lcmp hc d_M0_remove_38 rfl ?_
        refine V_if_ge (tgt := 45) hc d_M0_remove_39 rfl (fun h => ?_) (fun h => ?_)
        · replace hw := hw.1 h
          refine V_aload_n hc d_M0_remove_45 rfl 0 rfl ?_
          refine V_iconst (v := 1) hc d_M0_remove_46 (by decide) ?_
          refine V_iconst (v := 0) hc d_M0_remove_47 (by decide) ?_
          refine V_callVi (As := [.int 1, .int 0]) (st := []) hc TS_good NS_nest (fun _ h => h) (c_M0_room l K cA D a 1 0 u8) k_761 k_10 k_764 k_763 kp_M0_room 0 eM_0 rfl q_M0_room (by decide) (Nat.zero_le _) (Nat.zero_le _) rfl (Nat.le_of_ble_eq_true rfl) d_M0_remove_48 hw (fun r9 u10 hw => ?_)
          try dsimp only at hw
          refine V_if_ne (tgt := 57) hc d_M0_remove_51 rfl (fun h => ?_) (fun h => ?_)
          · replace hw := hw.1 h
            refine V_aload_n hc d_M0_remove_57 rfl 0 rfl ?_
            refine V_iconst (v := 2) hc d_M0_remove_58 (by decide) ?_
            refine V_iload_n hc d_M0_remove_59 rfl 1 rfl ?_
            refine V_iload_n hc d_M0_remove_60 rfl 2 rfl ?_
            refine V_callVi (As := [.int 2, .int x1, .int x2]) (st := []) hc TS_good NS_nest (fun _ h => h) (c_M0_write l K cA D a 2 x1 x2 u10) k_781 k_10 k_784 k_783 kp_M0_write 0 eM_0 rfl q_M0_write (by decide) (Nat.zero_le _) (Nat.zero_le _) rfl (Nat.le_of_ble_eq_true rfl) d_M0_remove_61 hw (fun r11 u12 hw => ?_)
            try dsimp only at hw
            refine V_istore_n hc [(3, .int r11), (0, .ref (a 0)), (1, .int x1), (2, .int x2)] d_M0_remove_64 rfl (by decide) rfl ?_
            refine V_aload_n hc d_M0_remove_65 rfl 1 rfl ?_
            refine V_get (v := .ref (a 10)) hc uin_M0 0 eM_0 rfl 16 (by decide) k_601 rfl d_M0_remove_66 ?_
            refine V_aload_n hc d_M0_remove_69 rfl 1 rfl ?_
            refine V_get (v := .ref (a 3)) hc uin_M0 0 eM_0 rfl 7 (by decide) k_592 rfl d_M0_remove_70 ?_
            refine V_iload_n hc d_M0_remove_73 rfl 0 rfl ?_
            obtain ⟨hi, hw⟩ := hw
            refine V_iald (x := g_A u12 2 (r11 : Int32).toNatClampNeg) hc 3 0 eM_3 rfl hi rfl d_M0_remove_74 ?_
            refine V_iload_n hc d_M0_remove_75 rfl 2 rfl ?_
            obtain ⟨hi, hw⟩ := hw
            refine V_iast hc 10 0 eM_10 rfl hi sM_10 d_M0_remove_76 ?_
            refine V_iconst (v := 0) hc d_M0_remove_77 (by decide) ?_
            exact V_iret hc NS_nest hr hw d_M0_remove_78
          · replace hw := hw.2 h
            refine V_bipush (v := (-4)) hc d_M0_remove_54 (by decide) ?_
            exact V_iret hc NS_nest hr hw d_M0_remove_56
        · replace hw := hw.2 h
          refine V_bipush (v := (-2)) hc d_M0_remove_42 (by decide) ?_
          exact V_iret hc NS_nest hr hw d_M0_remove_44
      · replace hw := hw.2 h
        refine V_bipush (v := (-3)) hc d_M0_remove_28 (by decide) ?_
        exact V_iret hc NS_nest hr hw d_M0_remove_30
    · replace hw := hw.2 h
      refine V_bipush (v := (-2)) hc d_M0_remove_16 (by decide) ?_
      exact V_iret hc NS_nest hr hw d_M0_remove_18
def w_M0_end_66 (K : Nat) (Q : Int32 → St → Prop) : Nat → Int32 → Int32 → Int32 → St → Prop
  | 0, _, _, _, _ => False
  | n + 1, v1, v2, v4, z => ((12 ≤ v4 → ((v2 = 0 → w_M0_write K 4 v1 (-1) z (fun r3 u4 => Q r3 u4)) ∧ (¬ v2 = 0 → w_M0_write K 3 v1 (-1) z (fun r5 u6 => Q r5 u6)))) ∧ (¬ 12 ≤ v4 → (vp_in v4 12 ∧ ((¬ (g_A z 9 (v4 : Int32).toNatClampNeg) = v1 → (vp_in v4 12 ∧ (vp_in v4 12 ∧ w_M0_end_66 K Q n v1 v2 (v4 + 1) (s_A z 9 (v4 : Int32).toNatClampNeg (g_A z 9 (v4 : Int32).toNatClampNeg))))) ∧ ((g_A z 9 (v4 : Int32).toNatClampNeg) = v1 → (vp_in v4 12 ∧ w_M0_end_66 K Q n v1 v2 (v4 + 1) (s_A z 9 (v4 : Int32).toNatClampNeg (-1))))))))
def w_M0_end_16 (K : Nat) (Q : Int32 → St → Prop) : Nat → Int32 → Int32 → Int32 → Int32 → St → Prop
  | 0, _, _, _, _, _ => False
  | n + 1, v1, v2, v3, v4, z => ((g_I z 6 ≤ v4 → (∃ n9, w_M0_end_66 K Q n9 v1 v2 0 (s_I z 6 v3))) ∧ (¬ g_I z 6 ≤ v4 → (vp_in v4 4 ∧ (((g_A z 8 (v4 : Int32).toNatClampNeg) = v1 → w_M0_end_16 K Q n v1 v2 v3 (v4 + 1) z) ∧ (¬ (g_A z 8 (v4 : Int32).toNatClampNeg) = v1 → (vp_in v4 4 ∧ (vp_in v3 4 ∧ w_M0_end_16 K Q n v1 v2 (v3 + 1) (v4 + 1) (s_A z 8 (v3 : Int32).toNatClampNeg (g_A z 8 (v4 : Int32).toNatClampNeg)))))))))
def w_M0_end (K : Nat) (x1 : Int32) (x2 : Int32) (z : St) (Q : Int32 → St → Prop) : Prop :=
  w_M0_isOpen K x1 z (fun r1 u2 => ((¬ r1 = 0 → (∃ n9, w_M0_end_16 K Q n9 x1 x2 0 0 u2)) ∧ (r1 = 0 → Q (-2) u2)))
set_option maxHeartbeats 4000000 in
set_option maxRecDepth 100000 in
theorem l_M0_end_66 (l : Launch) (K : Nat) (cA : Nat → ClassId) (D : va_G) (a : Nat → Nat) (Q : Int32 → St → Prop) (p : Program) (e : Env) (s : State) (m : MethodId) (args : Array Value) (below : List Frame) (meth : Method) (c : Code) (hc : Cx TS NS CL D (tyX cA) p s m args meth c b_M0_end 5 y_M0_end.cls) (hr : meth.sig.returnType = (some .int)) : ∀ (n : Nat) (v1 : Int32) (v2 : Int32) (v4 : Int32) (z : St), w_M0_end_66 K Q n v1 v2 v4 z → V CL p l e { frames := 1, cells := 0, slots := 0, locals := 23 } s m args below meth c 5 D (AX 19 a s.heap.size) 0 0 (MQ below (Qg NS CL D (tyX cA) (WM K cA a) (AX 19 a s.heap.size) mkI Q) args s 0 0 (AX 19 a s.heap.size)) (WM K cA a z) 66 [(0, .ref (a 0)), (1, .int v1), (2, .int v2), (4, .int v4)] [] := by
  intro n
  induction n with
  | zero =>
    intro v1 v2 v4 z hw
    exact hw.elim
  | succ n ih =>
    intro v1 v2 v4 z hw
    unfold w_M0_end_66 at hw
    refine V_iload hc d_M0_end_66 3 rfl ?_
    refine V_bipush (v := 12) hc d_M0_end_68 (by decide) ?_
    refine V_icmp_ge (tgt := 108) hc d_M0_end_70 rfl (fun h => ?_) (fun h => ?_)
    · replace hw := hw.1 h
      refine V_aload_n hc d_M0_end_108 rfl 0 rfl ?_
      refine V_iload_n hc d_M0_end_109 rfl 2 rfl ?_
      refine V_if_eq (tgt := 117) hc d_M0_end_110 rfl (fun h => ?_) (fun h => ?_)
      · replace hw := hw.1 h
        refine V_iconst (v := 4) hc d_M0_end_117 (by decide) ?_
        refine V_iload_n hc d_M0_end_118 rfl 1 rfl ?_
        refine V_iconst (v := (-1)) hc d_M0_end_119 (by decide) ?_
        refine V_callVi (As := [.int 4, .int v1, .int (-1)]) (st := []) hc TS_good NS_nest (fun _ h => h) (c_M0_write l K cA D a 4 v1 (-1) z) k_781 k_10 k_784 k_783 kp_M0_write 0 eM_0 rfl q_M0_write (by decide) (Nat.zero_le _) (Nat.zero_le _) rfl (Nat.le_of_ble_eq_true rfl) d_M0_end_120 hw (fun r3 u4 hw => ?_)
        try dsimp only at hw
        exact V_iret hc NS_nest hr hw d_M0_end_123
      · replace hw := hw.2 h
        refine V_iconst (v := 3) hc d_M0_end_113 (by decide) ?_
        refine V_goto (tgt := 118) hc d_M0_end_114 rfl ?_
        refine V_iload_n hc d_M0_end_118 rfl 1 rfl ?_
        refine V_iconst (v := (-1)) hc d_M0_end_119 (by decide) ?_
        refine V_callVi (As := [.int 3, .int v1, .int (-1)]) (st := []) hc TS_good NS_nest (fun _ h => h) (c_M0_write l K cA D a 3 v1 (-1) z) k_781 k_10 k_784 k_783 kp_M0_write 0 eM_0 rfl q_M0_write (by decide) (Nat.zero_le _) (Nat.zero_le _) rfl (Nat.le_of_ble_eq_true rfl) d_M0_end_120 hw (fun r5 u6 hw => ?_)
        try dsimp only at hw
        exact V_iret hc NS_nest hr hw d_M0_end_123
    · replace hw := hw.2 h
      refine V_aload_n hc d_M0_end_73 rfl 0 rfl ?_
      refine V_get (v := .ref (a 10)) hc uin_M0 0 eM_0 rfl 16 (by decide) k_601 rfl d_M0_end_74 ?_
      refine V_iload hc d_M0_end_77 3 rfl ?_
      refine V_aload_n hc d_M0_end_79 rfl 0 rfl ?_
      refine V_get (v := .ref (a 10)) hc uin_M0 0 eM_0 rfl 16 (by decide) k_601 rfl d_M0_end_80 ?_
      refine V_iload hc d_M0_end_83 3 rfl ?_
      obtain ⟨hi, hw⟩ := hw
      refine V_iald (x := g_A z 9 (v4 : Int32).toNatClampNeg) hc 10 0 eM_10 rfl hi rfl d_M0_end_85 ?_
      refine V_iload_n hc d_M0_end_86 rfl 1 rfl ?_
      refine V_icmp_ne (tgt := 94) hc d_M0_end_87 rfl (fun h => ?_) (fun h => ?_)
      · replace hw := hw.1 h
        refine V_aload_n hc d_M0_end_94 rfl 0 rfl ?_
        refine V_get (v := .ref (a 10)) hc uin_M0 0 eM_0 rfl 16 (by decide) k_601 rfl d_M0_end_95 ?_
        refine V_iload hc d_M0_end_98 3 rfl ?_
        obtain ⟨hi, hw⟩ := hw
        refine V_iald (x := g_A z 9 (v4 : Int32).toNatClampNeg) hc 10 0 eM_10 rfl hi rfl d_M0_end_100 ?_
        obtain ⟨hi, hw⟩ := hw
        refine V_iast hc 10 0 eM_10 rfl hi sM_10 d_M0_end_101 ?_
        refine V_iinc (v := (v4 + 1)) hc [(4, .int (v4 + 1)), (0, .ref (a 0)), (1, .int v1), (2, .int v2)] d_M0_end_102 3 rfl (by rfl) (by decide) rfl ?_
        refine V_goto (tgt := 66) hc d_M0_end_105 rfl ?_
        refine V_sub [1, 2, 3, 0] [(0, .ref (a 0)), (1, .int v1), (2, .int v2), (4, .int (v4 + 1))] rfl ?_
        exact ih v1 v2 (v4 + 1) (s_A z 9 (v4 : Int32).toNatClampNeg (g_A z 9 (v4 : Int32).toNatClampNeg)) hw
      · replace hw := hw.2 h
        refine V_iconst (v := (-1)) hc d_M0_end_90 (by decide) ?_
        refine V_goto (tgt := 101) hc d_M0_end_91 rfl ?_
        obtain ⟨hi, hw⟩ := hw
        refine V_iast hc 10 0 eM_10 rfl hi sM_10 d_M0_end_101 ?_
        refine V_iinc (v := (v4 + 1)) hc [(4, .int (v4 + 1)), (0, .ref (a 0)), (1, .int v1), (2, .int v2)] d_M0_end_102 3 rfl (by rfl) (by decide) rfl ?_
        refine V_goto (tgt := 66) hc d_M0_end_105 rfl ?_
        refine V_sub [1, 2, 3, 0] [(0, .ref (a 0)), (1, .int v1), (2, .int v2), (4, .int (v4 + 1))] rfl ?_
        exact ih v1 v2 (v4 + 1) (s_A z 9 (v4 : Int32).toNatClampNeg (-1)) hw
set_option maxHeartbeats 4000000 in
set_option maxRecDepth 100000 in
theorem l_M0_end_16 (l : Launch) (K : Nat) (cA : Nat → ClassId) (D : va_G) (a : Nat → Nat) (Q : Int32 → St → Prop) (p : Program) (e : Env) (s : State) (m : MethodId) (args : Array Value) (below : List Frame) (meth : Method) (c : Code) (hc : Cx TS NS CL D (tyX cA) p s m args meth c b_M0_end 5 y_M0_end.cls) (hr : meth.sig.returnType = (some .int)) : ∀ (n : Nat) (v1 : Int32) (v2 : Int32) (v3 : Int32) (v4 : Int32) (z : St), w_M0_end_16 K Q n v1 v2 v3 v4 z → V CL p l e { frames := 1, cells := 0, slots := 0, locals := 23 } s m args below meth c 5 D (AX 19 a s.heap.size) 0 0 (MQ below (Qg NS CL D (tyX cA) (WM K cA a) (AX 19 a s.heap.size) mkI Q) args s 0 0 (AX 19 a s.heap.size)) (WM K cA a z) 16 [(0, .ref (a 0)), (1, .int v1), (2, .int v2), (3, .int v3), (4, .int v4)] [] := by
  intro n
  induction n with
  | zero =>
    intro v1 v2 v3 v4 z hw
    exact hw.elim
  | succ n ih =>
    intro v1 v2 v3 v4 z hw
    unfold w_M0_end_16 at hw
    refine V_iload hc d_M0_end_16 4 rfl ?_
    refine V_aload_n hc d_M0_end_18 rfl 0 rfl ?_
    refine V_get (v := .int (g_I z 6)) hc uin_M0 0 eM_0 rfl 14 (by decide) k_599 rfl d_M0_end_19 ?_
    refine V_icmp_ge (tgt := 58) hc d_M0_end_22 rfl (fun h => ?_) (fun h => ?_)
    · replace hw := hw.1 h
      refine V_aload_n hc d_M0_end_58 rfl 0 rfl ?_
      refine V_iload_n hc d_M0_end_59 rfl 3 rfl ?_
      refine V_put (ty := .int) hc uin_M0 0 eM_0 rfl 14 (by decide) t_M0 t_M0_ok n_M0 k_599 rfl (by decide +kernel) rfl rfl (Nat.le_of_ble_eq_true rfl) iM_6 d_M0_end_60 ?_
      refine V_iconst (v := 0) hc d_M0_end_63 (by decide) ?_
      refine V_istore hc [(4, .int 0), (0, .ref (a 0)), (1, .int v1), (2, .int v2), (3, .int v3)] d_M0_end_64 (by decide) rfl ?_
      obtain ⟨n9, hw⟩ := hw
      refine V_sub [1, 2, 3, 0] [(0, .ref (a 0)), (1, .int v1), (2, .int v2), (4, .int 0)] rfl ?_
      exact l_M0_end_66 l K cA D a Q p e s m args below meth c hc hr n9 v1 v2 0 (s_I z 6 v3) hw
    · replace hw := hw.2 h
      refine V_aload_n hc d_M0_end_25 rfl 0 rfl ?_
      refine V_get (v := .ref (a 9)) hc uin_M0 0 eM_0 rfl 15 (by decide) k_600 rfl d_M0_end_26 ?_
      refine V_iload hc d_M0_end_29 4 rfl ?_
      obtain ⟨hi, hw⟩ := hw
      refine V_iald (x := g_A z 8 (v4 : Int32).toNatClampNeg) hc 9 0 eM_9 rfl hi rfl d_M0_end_31 ?_
      refine V_iload_n hc d_M0_end_32 rfl 1 rfl ?_
      refine V_icmp_eq (tgt := 52) hc d_M0_end_33 rfl (fun h => ?_) (fun h => ?_)
      · replace hw := hw.1 h
        refine V_iinc (v := (v4 + 1)) hc [(4, .int (v4 + 1)), (0, .ref (a 0)), (1, .int v1), (2, .int v2), (3, .int v3)] d_M0_end_52 4 rfl (by rfl) (by decide) rfl ?_
        refine V_goto (tgt := 16) hc d_M0_end_55 rfl ?_
        refine V_sub [1, 2, 3, 4, 0] [(0, .ref (a 0)), (1, .int v1), (2, .int v2), (3, .int v3), (4, .int (v4 + 1))] rfl ?_
        exact ih v1 v2 v3 (v4 + 1) z hw
      · replace hw := hw.2 h
        refine V_aload_n hc d_M0_end_36 rfl 0 rfl ?_
        refine V_get (v := .ref (a 9)) hc uin_M0 0 eM_0 rfl 15 (by decide) k_600 rfl d_M0_end_37 ?_
        refine V_iload_n hc d_M0_end_40 rfl 3 rfl ?_
        refine V_aload_n hc d_M0_end_41 rfl 0 rfl ?_
        refine V_get (v := .ref (a 9)) hc uin_M0 0 eM_0 rfl 15 (by decide) k_600 rfl d_M0_end_42 ?_
        refine V_iload hc d_M0_end_45 4 rfl ?_
        obtain ⟨hi, hw⟩ := hw
        refine V_iald (x := g_A z 8 (v4 : Int32).toNatClampNeg) hc 9 0 eM_9 rfl hi rfl d_M0_end_47 ?_
        obtain ⟨hi, hw⟩ := hw
        refine V_iast hc 9 0 eM_9 rfl hi sM_9 d_M0_end_48 ?_
        refine V_iinc (v := (v3 + 1)) hc [(3, .int (v3 + 1)), (0, .ref (a 0)), (1, .int v1), (2, .int v2), (4, .int v4)] d_M0_end_49 3 rfl (by rfl) (by decide) rfl ?_
        refine V_iinc (v := (v4 + 1)) hc [(4, .int (v4 + 1)), (3, .int (v3 + 1)), (0, .ref (a 0)), (1, .int v1), (2, .int v2)] d_M0_end_52 4 rfl (by rfl) (by decide) rfl ?_
        refine V_goto (tgt := 16) hc d_M0_end_55 rfl ?_
        refine V_sub [2, 3, 4, 1, 0] [(0, .ref (a 0)), (1, .int v1), (2, .int v2), (3, .int (v3 + 1)), (4, .int (v4 + 1))] rfl ?_
        exact ih v1 v2 (v3 + 1) (v4 + 1) (s_A z 8 (v3 : Int32).toNatClampNeg (g_A z 8 (v4 : Int32).toNatClampNeg)) hw
set_option maxHeartbeats 4000000 in
set_option maxRecDepth 100000 in
theorem c_M0_end (l : Launch) (K : Nat) (cA : Nat → ClassId) (D : va_G) (a : Nat → Nat) (x1 : Int32) (x2 : Int32) (z : St) : Ct l NS CL D (tyX cA) 19 a (WM K cA a) mkI y_M0_end (.code y_M0_end b_M0_end 5 (some .int) :: TS) { frames := 1, cells := 0, slots := 0, locals := 23 } [.ref (a 0), .int x1, .int x2] z (w_M0_end K x1 x2 z) := by
  refine Ct.of (by decide) (Nat.le_of_ble_eq_true rfl) adM ?_
  intro Q p e s m args below meth c hc hr hw
  unfold w_M0_end at hw
  refine V_st _ [(0, .ref (a 0)), (1, .int x1), (2, .int x2)] _ rfl rfl rfl ?_
  refine V_aload_n hc d_M0_end_0 rfl 0 rfl ?_
  refine V_iload_n hc d_M0_end_1 rfl 1 rfl ?_
  refine V_callVi (As := [.int x1]) (st := []) hc TS_good NS_nest (fun _ h => h) (c_M0_isOpen l K cA D a x1 z) k_769 k_10 k_772 k_771 kp_M0_isOpen 0 eM_0 rfl q_M0_isOpen (by decide) (Nat.zero_le _) (Nat.zero_le _) rfl (Nat.le_of_ble_eq_true rfl) d_M0_end_2 hw (fun r1 u2 hw => ?_)
  try dsimp only at hw
  refine V_if_ne (tgt := 11) hc d_M0_end_5 rfl (fun h => ?_) (fun h => ?_)
  · replace hw := hw.1 h
    refine V_iconst (v := 0) hc d_M0_end_11 (by decide) ?_
    refine V_istore_n hc [(3, .int 0), (0, .ref (a 0)), (1, .int x1), (2, .int x2)] d_M0_end_12 rfl (by decide) rfl ?_
    refine V_iconst (v := 0) hc d_M0_end_13 (by decide) ?_
    refine V_istore hc [(4, .int 0), (3, .int 0), (0, .ref (a 0)), (1, .int x1), (2, .int x2)] d_M0_end_14 (by decide) rfl ?_
    obtain ⟨n9, hw⟩ := hw
    refine V_sub [2, 3, 4, 1, 0] [(0, .ref (a 0)), (1, .int x1), (2, .int x2), (3, .int 0), (4, .int 0)] rfl ?_
    exact l_M0_end_16 l K cA D a Q p e s m args below meth c hc hr n9 x1 x2 0 0 u2 hw
  · replace hw := hw.2 h
    refine V_bipush (v := (-2)) hc d_M0_end_8 (by decide) ?_
    exact V_iret hc NS_nest hr hw d_M0_end_10
def w_M0_crash_17 (K : Nat) (Q : Int32 → St → Prop) : Nat → Int32 → St → Prop
  | 0, _, _ => False
  | n + 1, v2, z => ((4 ≤ v2 → Q 1 z) ∧ (¬ 4 ≤ v2 → ((g_I z 6 ≤ 0 → w_M0_crash_17 K Q n (v2 + 1) z) ∧ (¬ g_I z 6 ≤ 0 → (vp_in 0 4 ∧ w_M0_end K (g_A z 8 (0 : Int32).toNatClampNeg) 0 z (fun r5 u6 => w_M0_crash_17 K Q n (v2 + 1) u6))))))
def w_M0_crash (K : Nat) (x1 : Int32) (z : St) (Q : Int32 → St → Prop) : Prop :=
  ((x1 < 0 → Q 0 z) ∧ (¬ x1 < 0 → ((x1 ≤ 2 → ((¬ x1 = 0 → ((¬ x1 = 1 → Q 1 (s_I z 20 (-1))) ∧ (x1 = 1 → w_M0_position K  (s_I (s_I (s_I (s_I z 20 (-1)) 16 0) 12 0) 7 (g_I z 7 + 1)) (fun r1 u2 => w_M0_progress K  (s_I (s_I (s_I u2 8 r1) 9 r1) 10 0) (fun r3 u4 => Q 1 (s_I u4 11 r3)))))) ∧ (x1 = 0 → (∃ n9, w_M0_crash_17 K Q n9 0 z)))) ∧ (¬ x1 ≤ 2 → Q 0 z))))
set_option maxHeartbeats 4000000 in
set_option maxRecDepth 100000 in
theorem l_M0_crash_17 (l : Launch) (K : Nat) (cA : Nat → ClassId) (D : va_G) (a : Nat → Nat) (Q : Int32 → St → Prop) (p : Program) (e : Env) (s : State) (m : MethodId) (args : Array Value) (below : List Frame) (meth : Method) (c : Code) (hc : Cx TS NS CL D (tyX cA) p s m args meth c b_M0_crash 4 y_M0_crash.cls) (hr : meth.sig.returnType = (some .boolean)) : ∀ (n : Nat) (v2 : Int32) (z : St), w_M0_crash_17 K Q n v2 z → V CL p l e { frames := 2, cells := 0, slots := 0, locals := 47 } s m args below meth c 4 D (AX 19 a s.heap.size) 0 0 (MQ below (Qg NS CL D (tyX cA) (WM K cA a) (AX 19 a s.heap.size) mkI Q) args s 0 0 (AX 19 a s.heap.size)) (WM K cA a z) 17 [(0, .ref (a 0)), (2, .int v2)] [] := by
  intro n
  induction n with
  | zero =>
    intro v2 z hw
    exact hw.elim
  | succ n ih =>
    intro v2 z hw
    unfold w_M0_crash_17 at hw
    refine V_iload_n hc d_M0_crash_17 rfl 1 rfl ?_
    refine V_iconst (v := 4) hc d_M0_crash_18 (by decide) ?_
    refine V_icmp_ge (tgt := 47) hc d_M0_crash_19 rfl (fun h => ?_) (fun h => ?_)
    · replace hw := hw.1 h
      refine V_iconst (v := 1) hc d_M0_crash_47 (by decide) ?_
      exact V_zret hc NS_nest hr (by decide) hw d_M0_crash_48
    · replace hw := hw.2 h
      refine V_aload_n hc d_M0_crash_22 rfl 0 rfl ?_
      refine V_get (v := .int (g_I z 6)) hc uin_M0 0 eM_0 rfl 14 (by decide) k_599 rfl d_M0_crash_23 ?_
      refine V_if_le (tgt := 41) hc d_M0_crash_26 rfl (fun h => ?_) (fun h => ?_)
      · replace hw := hw.1 h
        refine V_iinc (v := (v2 + 1)) hc [(2, .int (v2 + 1)), (0, .ref (a 0))] d_M0_crash_41 1 rfl (by rfl) (by decide) rfl ?_
        refine V_goto (tgt := 17) hc d_M0_crash_44 rfl ?_
        refine V_sub [1, 0] [(0, .ref (a 0)), (2, .int (v2 + 1))] rfl ?_
        exact ih (v2 + 1) z hw
      · replace hw := hw.2 h
        refine V_aload_n hc d_M0_crash_29 rfl 0 rfl ?_
        refine V_aload_n hc d_M0_crash_30 rfl 0 rfl ?_
        refine V_get (v := .ref (a 9)) hc uin_M0 0 eM_0 rfl 15 (by decide) k_600 rfl d_M0_crash_31 ?_
        refine V_iconst (v := 0) hc d_M0_crash_34 (by decide) ?_
        obtain ⟨hi, hw⟩ := hw
        refine V_iald (x := g_A z 8 (0 : Int32).toNatClampNeg) hc 9 0 eM_9 rfl hi rfl d_M0_crash_35 ?_
        refine V_iconst (v := 0) hc d_M0_crash_36 (by decide) ?_
        refine V_callVi (As := [.int (g_A z 8 (0 : Int32).toNatClampNeg), .int 0]) (st := []) hc TS_good NS_nest (fun _ h => h) (c_M0_end l K cA D a (g_A z 8 (0 : Int32).toNatClampNeg) 0 z) k_802 k_10 k_796 k_794 k_795 0 eM_0 rfl q_M0_end (by decide) (Nat.zero_le _) (Nat.zero_le _) rfl (Nat.le_of_ble_eq_true rfl) d_M0_crash_37 hw (fun r5 u6 hw => ?_)
        try dsimp only at hw
        refine V_istore_n hc [(3, .int r5), (0, .ref (a 0)), (2, .int v2)] d_M0_crash_40 rfl (by decide) rfl ?_
        refine V_iinc (v := (v2 + 1)) hc [(2, .int (v2 + 1)), (3, .int r5), (0, .ref (a 0))] d_M0_crash_41 2 rfl (by rfl) (by decide) rfl ?_
        refine V_goto (tgt := 17) hc d_M0_crash_44 rfl ?_
        refine V_sub [2, 0] [(0, .ref (a 0)), (2, .int (v2 + 1))] rfl ?_
        exact ih (v2 + 1) u6 hw
set_option maxHeartbeats 4000000 in
set_option maxRecDepth 100000 in
theorem c_M0_crash (l : Launch) (K : Nat) (cA : Nat → ClassId) (D : va_G) (a : Nat → Nat) (x1 : Int32) (z : St) : Ct l NS CL D (tyX cA) 19 a (WM K cA a) mkI y_M0_crash (.code y_M0_crash b_M0_crash 4 (some .boolean) :: TS) { frames := 2, cells := 0, slots := 0, locals := 47 } [.ref (a 0), .int x1] z (w_M0_crash K x1 z) := by
  refine Ct.of (by decide) (Nat.le_of_ble_eq_true rfl) adM ?_
  intro Q p e s m args below meth c hc hr hw
  unfold w_M0_crash at hw
  refine V_st _ [(0, .ref (a 0)), (1, .int x1)] _ rfl rfl rfl ?_
  refine V_iload_n hc d_M0_crash_0 rfl 1 rfl ?_
  refine V_if_lt (tgt := 9) hc d_M0_crash_1 rfl (fun h => ?_) (fun h => ?_)
  · replace hw := hw.1 h
    refine V_iconst (v := 0) hc d_M0_crash_9 (by decide) ?_
    exact V_zret hc NS_nest hr (by decide) hw d_M0_crash_10
  · replace hw := hw.2 h
    refine V_iload_n hc d_M0_crash_4 rfl 1 rfl ?_
    refine V_iconst (v := 2) hc d_M0_crash_5 (by decide) ?_
    refine V_icmp_le (tgt := 11) hc d_M0_crash_6 rfl (fun h => ?_) (fun h => ?_)
    · replace hw := hw.1 h
      refine V_iload_n hc d_M0_crash_11 rfl 1 rfl ?_
      refine V_if_ne (tgt := 49) hc d_M0_crash_12 rfl (fun h => ?_) (fun h => ?_)
      · replace hw := hw.1 h
        refine V_aload_n hc d_M0_crash_49 rfl 0 rfl ?_
        refine V_iconst (v := (-1)) hc d_M0_crash_50 (by decide) ?_
        refine V_put (ty := .int) hc uin_M0 0 eM_0 rfl 38 (by decide) t_M0 t_M0_ok n_M0 k_623 rfl (by decide +kernel) rfl rfl (Nat.le_of_ble_eq_true rfl) iM_20 d_M0_crash_51 ?_
        refine V_iload_n hc d_M0_crash_54 rfl 1 rfl ?_
        refine V_iconst (v := 1) hc d_M0_crash_55 (by decide) ?_
        refine V_icmp_ne (tgt := 108) hc d_M0_crash_56 rfl (fun h => ?_) (fun h => ?_)
        · replace hw := hw.1 h
          refine V_iconst (v := 1) hc d_M0_crash_108 (by decide) ?_
          exact V_zret hc NS_nest hr (by decide) hw d_M0_crash_109
        · replace hw := hw.2 h
          refine V_aload_n hc d_M0_crash_59 rfl 0 rfl ?_
          refine V_iconst (v := 0) hc d_M0_crash_60 (by decide) ?_
          refine V_put (ty := .int) hc uin_M0 0 eM_0 rfl 26 (by decide) t_M0 t_M0_ok n_M0 k_611 rfl (by decide +kernel) rfl rfl (Nat.le_of_ble_eq_true rfl) iM_16 d_M0_crash_61 ?_
          refine V_aload_n hc d_M0_crash_64 rfl 0 rfl ?_
          refine V_iconst (v := 0) hc d_M0_crash_65 (by decide) ?_
          refine V_put (ty := .int) hc uin_M0 0 eM_0 rfl 22 (by decide) t_M0 t_M0_ok n_M0 k_607 rfl (by decide +kernel) rfl rfl (Nat.le_of_ble_eq_true rfl) iM_12 d_M0_crash_66 ?_
          refine V_aload_n hc d_M0_crash_69 rfl 0 rfl ?_
          refine V_dup hc d_M0_crash_70 rfl ?_
          refine V_get (v := .int (g_I z 7)) hc uin_M0 0 eM_0 rfl 17 (by decide) k_602 rfl d_M0_crash_71 ?_
          refine V_iconst (v := 1) hc d_M0_crash_74 (by decide) ?_
          refine V_iadd hc d_M0_crash_75 rfl ?_
          refine V_put (ty := .int) hc uin_M0 0 eM_0 rfl 17 (by decide) t_M0 t_M0_ok n_M0 k_602 rfl (by decide +kernel) rfl rfl (Nat.le_of_ble_eq_true rfl) iM_7 d_M0_crash_76 ?_
          refine V_aload_n hc d_M0_crash_79 rfl 0 rfl ?_
          refine V_aload_n hc d_M0_crash_80 rfl 0 rfl ?_
          refine V_callVi (As := []) (st := [.ref (a 0)]) hc TS_good NS_nest (fun _ h => h) (c_M0_position l K cA D a  (s_I (s_I (s_I (s_I z 20 (-1)) 16 0) 12 0) 7 (g_I z 7 + 1))) k_803 k_10 k_752 k_750 k_751 0 eM_0 rfl q_M0_position (by decide) (Nat.zero_le _) (Nat.zero_le _) rfl (Nat.le_of_ble_eq_true rfl) d_M0_crash_81 hw (fun r1 u2 hw => ?_)
          try dsimp only at hw
          refine V_put (ty := .int) hc uin_M0 0 eM_0 rfl 18 (by decide) t_M0 t_M0_ok n_M0 k_603 rfl (by decide +kernel) rfl rfl (Nat.le_of_ble_eq_true rfl) iM_8 d_M0_crash_84 ?_
          refine V_aload_n hc d_M0_crash_87 rfl 0 rfl ?_
          refine V_aload_n hc d_M0_crash_88 rfl 0 rfl ?_
          refine V_get (v := .int r1) hc uin_M0 0 eM_0 rfl 18 (by decide) k_603 rfl d_M0_crash_89 ?_
          refine V_put (ty := .int) hc uin_M0 0 eM_0 rfl 19 (by decide) t_M0 t_M0_ok n_M0 k_604 rfl (by decide +kernel) rfl rfl (Nat.le_of_ble_eq_true rfl) iM_9 d_M0_crash_92 ?_
          refine V_aload_n hc d_M0_crash_95 rfl 0 rfl ?_
          refine V_iconst (v := 0) hc d_M0_crash_96 (by decide) ?_
          refine V_put (ty := .int) hc uin_M0 0 eM_0 rfl 20 (by decide) t_M0 t_M0_ok n_M0 k_605 rfl (by decide +kernel) rfl rfl (Nat.le_of_ble_eq_true rfl) iM_10 d_M0_crash_97 ?_
          refine V_aload_n hc d_M0_crash_100 rfl 0 rfl ?_
          refine V_aload_n hc d_M0_crash_101 rfl 0 rfl ?_
          refine V_callVi (As := []) (st := [.ref (a 0)]) hc TS_good NS_nest (fun _ h => h) (c_M0_progress l K cA D a  (s_I (s_I (s_I u2 8 r1) 9 r1) 10 0)) k_804 k_10 k_756 k_754 k_755 0 eM_0 rfl q_M0_progress (by decide) (Nat.zero_le _) (Nat.zero_le _) rfl (Nat.le_of_ble_eq_true rfl) d_M0_crash_102 hw (fun r3 u4 hw => ?_)
          try dsimp only at hw
          refine V_put (ty := .int) hc uin_M0 0 eM_0 rfl 21 (by decide) t_M0 t_M0_ok n_M0 k_606 rfl (by decide +kernel) rfl rfl (Nat.le_of_ble_eq_true rfl) iM_11 d_M0_crash_105 ?_
          refine V_iconst (v := 1) hc d_M0_crash_108 (by decide) ?_
          exact V_zret hc NS_nest hr (by decide) hw d_M0_crash_109
      · replace hw := hw.2 h
        refine V_iconst (v := 0) hc d_M0_crash_15 (by decide) ?_
        refine V_istore_n hc [(2, .int 0), (0, .ref (a 0)), (1, .int x1)] d_M0_crash_16 rfl (by decide) rfl ?_
        obtain ⟨n9, hw⟩ := hw
        refine V_sub [1, 0] [(0, .ref (a 0)), (2, .int 0)] rfl ?_
        exact l_M0_crash_17 l K cA D a Q p e s m args below meth c hc hr n9 0 z hw
    · replace hw := hw.2 h
      refine V_iconst (v := 0) hc d_M0_crash_9 (by decide) ?_
      exact V_zret hc NS_nest hr (by decide) hw d_M0_crash_10
def w_M0_snapshot (K : Nat)  (z : St) (Q : Int32 → St → Prop) : Prop :=
  ((g_I z 12 = 3 → Q (-2) z) ∧ (¬ g_I z 12 = 3 → ((¬ g_I z 12 = 0 → ((¬ g_I z 12 = 1 → w_M0_room K 1 0 z (fun r1 u2 => ((¬ r1 = 0 → ((¬ g_I u2 12 = 0 → w_M0_write K 6 (-1) (-1) u2 (fun r3 u4 => (vp_in r3 160 ∧ (vp_in r3 160 ∧ (vp_in r3 160 ∧ Q 3 (s_I (s_A (s_A (s_A (s_I u4 15 r3) 5 (r3 : Int32).toNatClampNeg (g_I u4 13)) 6 (r3 : Int32).toNatClampNeg (g_I u4 14)) 7 (r3 : Int32).toNatClampNeg (g_I u4 11)) 12 3)))))) ∧ (g_I u2 12 = 0 → w_M0_write K 5 (-1) (-1) u2 (fun r5 u6 => Q 1 (s_I (s_I u6 13 r5) 12 1))))) ∧ (r1 = 0 → Q (-4) u2)))) ∧ (g_I z 12 = 1 → Q 2 (s_I (s_I z 12 2) 14 (g_I z 4))))) ∧ (g_I z 12 = 0 → ((g_I z 11 < g_I z 0 → ((¬ g_I z 12 = 1 → w_M0_room K 1 0 z (fun r7 u8 => ((¬ r7 = 0 → ((¬ g_I u8 12 = 0 → w_M0_write K 6 (-1) (-1) u8 (fun r9 u10 => (vp_in r9 160 ∧ (vp_in r9 160 ∧ (vp_in r9 160 ∧ Q 3 (s_I (s_A (s_A (s_A (s_I u10 15 r9) 5 (r9 : Int32).toNatClampNeg (g_I u10 13)) 6 (r9 : Int32).toNatClampNeg (g_I u10 14)) 7 (r9 : Int32).toNatClampNeg (g_I u10 11)) 12 3)))))) ∧ (g_I u8 12 = 0 → w_M0_write K 5 (-1) (-1) u8 (fun r11 u12 => Q 1 (s_I (s_I u12 13 r11) 12 1))))) ∧ (r7 = 0 → Q (-4) u8)))) ∧ (g_I z 12 = 1 → Q 2 (s_I (s_I z 12 2) 14 (g_I z 4))))) ∧ (¬ g_I z 11 < g_I z 0 → Q (-2) z))))))
set_option maxHeartbeats 4000000 in
set_option maxRecDepth 100000 in
theorem c_M0_snapshot (l : Launch) (K : Nat) (cA : Nat → ClassId) (D : va_G) (a : Nat → Nat)  (z : St) : Ct l NS CL D (tyX cA) 19 a (WM K cA a) mkI y_M0_snapshot (.code y_M0_snapshot b_M0_snapshot 1 (some .int) :: TS) { frames := 1, cells := 0, slots := 0, locals := 23 } [.ref (a 0)] z (w_M0_snapshot K  z) := by
  refine Ct.of (by decide) (Nat.le_of_ble_eq_true rfl) adM ?_
  intro Q p e s m args below meth c hc hr hw
  unfold w_M0_snapshot at hw
  refine V_st _ [(0, .ref (a 0))] _ rfl rfl rfl ?_
  refine V_aload_n hc d_M0_snapshot_0 rfl 0 rfl ?_
  refine V_get (v := .int (g_I z 12)) hc uin_M0 0 eM_0 rfl 22 (by decide) k_607 rfl d_M0_snapshot_1 ?_
  refine V_iconst (v := 3) hc d_M0_snapshot_4 (by decide) ?_
  refine V_icmp_eq (tgt := 26) hc d_M0_snapshot_5 rfl (fun h => ?_) (fun h => ?_)
  · replace hw := hw.1 h
    refine V_bipush (v := (-2)) hc d_M0_snapshot_26 (by decide) ?_
    exact V_iret hc NS_nest hr hw d_M0_snapshot_28
  · replace hw := hw.2 h
    refine V_aload_n hc d_M0_snapshot_8 rfl 0 rfl ?_
    refine V_get (v := .int (g_I z 12)) hc uin_M0 0 eM_0 rfl 22 (by decide) k_607 rfl d_M0_snapshot_9 ?_
    refine V_if_ne (tgt := 29) hc d_M0_snapshot_12 rfl (fun h => ?_) (fun h => ?_)
    · replace hw := hw.1 h
      refine V_aload_n hc d_M0_snapshot_29 rfl 0 rfl ?_
      refine V_get (v := .int (g_I z 12)) hc uin_M0 0 eM_0 rfl 22 (by decide) k_607 rfl d_M0_snapshot_30 ?_
      refine V_iconst (v := 1) hc d_M0_snapshot_33 (by decide) ?_
      refine V_icmp_ne (tgt := 52) hc d_M0_snapshot_34 rfl (fun h => ?_) (fun h => ?_)
      · replace hw := hw.1 h
        refine V_aload_n hc d_M0_snapshot_52 rfl 0 rfl ?_
        refine V_iconst (v := 1) hc d_M0_snapshot_53 (by decide) ?_
        refine V_iconst (v := 0) hc d_M0_snapshot_54 (by decide) ?_
        refine V_callVi (As := [.int 1, .int 0]) (st := []) hc TS_good NS_nest (fun _ h => h) (c_M0_room l K cA D a 1 0 z) k_761 k_10 k_764 k_763 kp_M0_room 0 eM_0 rfl q_M0_room (by decide) (Nat.zero_le _) (Nat.zero_le _) rfl (Nat.le_of_ble_eq_true rfl) d_M0_snapshot_55 hw (fun r1 u2 hw => ?_)
        try dsimp only at hw
        refine V_if_ne (tgt := 64) hc d_M0_snapshot_58 rfl (fun h => ?_) (fun h => ?_)
        · replace hw := hw.1 h
          refine V_aload_n hc d_M0_snapshot_64 rfl 0 rfl ?_
          refine V_get (v := .int (g_I u2 12)) hc uin_M0 0 eM_0 rfl 22 (by decide) k_607 rfl d_M0_snapshot_65 ?_
          refine V_if_ne (tgt := 89) hc d_M0_snapshot_68 rfl (fun h => ?_) (fun h => ?_)
          · replace hw := hw.1 h
            refine V_aload_n hc d_M0_snapshot_89 rfl 0 rfl ?_
            refine V_aload_n hc d_M0_snapshot_90 rfl 0 rfl ?_
            refine V_bipush (v := 6) hc d_M0_snapshot_91 (by decide) ?_
            refine V_iconst (v := (-1)) hc d_M0_snapshot_93 (by decide) ?_
            refine V_iconst (v := (-1)) hc d_M0_snapshot_94 (by decide) ?_
            refine V_callVi (As := [.int 6, .int (-1), .int (-1)]) (st := [.ref (a 0)]) hc TS_good NS_nest (fun _ h => h) (c_M0_write l K cA D a 6 (-1) (-1) u2) k_781 k_10 k_784 k_783 kp_M0_write 0 eM_0 rfl q_M0_write (by decide) (Nat.zero_le _) (Nat.zero_le _) rfl (Nat.le_of_ble_eq_true rfl) d_M0_snapshot_95 hw (fun r3 u4 hw => ?_)
            try dsimp only at hw
            refine V_put (ty := .int) hc uin_M0 0 eM_0 rfl 25 (by decide) t_M0 t_M0_ok n_M0 k_610 rfl (by decide +kernel) rfl rfl (Nat.le_of_ble_eq_true rfl) iM_15 d_M0_snapshot_98 ?_
            refine V_aload_n hc d_M0_snapshot_101 rfl 0 rfl ?_
            refine V_get (v := .ref (a 6)) hc uin_M0 0 eM_0 rfl 10 (by decide) k_595 rfl d_M0_snapshot_102 ?_
            refine V_aload_n hc d_M0_snapshot_105 rfl 0 rfl ?_
            refine V_get (v := .int r3) hc uin_M0 0 eM_0 rfl 25 (by decide) k_610 rfl d_M0_snapshot_106 ?_
            refine V_aload_n hc d_M0_snapshot_109 rfl 0 rfl ?_
            refine V_get (v := .int (g_I u4 13)) hc uin_M0 0 eM_0 rfl 23 (by decide) k_608 rfl d_M0_snapshot_110 ?_
            obtain ⟨hi, hw⟩ := hw
            refine V_iast hc 6 0 eM_6 rfl hi sM_6 d_M0_snapshot_113 ?_
            refine V_aload_n hc d_M0_snapshot_114 rfl 0 rfl ?_
            refine V_get (v := .ref (a 7)) hc uin_M0 0 eM_0 rfl 11 (by decide) k_596 rfl d_M0_snapshot_115 ?_
            refine V_aload_n hc d_M0_snapshot_118 rfl 0 rfl ?_
            refine V_get (v := .int r3) hc uin_M0 0 eM_0 rfl 25 (by decide) k_610 rfl d_M0_snapshot_119 ?_
            refine V_aload_n hc d_M0_snapshot_122 rfl 0 rfl ?_
            refine V_get (v := .int (g_I u4 14)) hc uin_M0 0 eM_0 rfl 24 (by decide) k_609 rfl d_M0_snapshot_123 ?_
            obtain ⟨hi, hw⟩ := hw
            refine V_iast hc 7 0 eM_7 rfl hi sM_7 d_M0_snapshot_126 ?_
            refine V_aload_n hc d_M0_snapshot_127 rfl 0 rfl ?_
            refine V_get (v := .ref (a 8)) hc uin_M0 0 eM_0 rfl 12 (by decide) k_597 rfl d_M0_snapshot_128 ?_
            refine V_aload_n hc d_M0_snapshot_131 rfl 0 rfl ?_
            refine V_get (v := .int r3) hc uin_M0 0 eM_0 rfl 25 (by decide) k_610 rfl d_M0_snapshot_132 ?_
            refine V_aload_n hc d_M0_snapshot_135 rfl 0 rfl ?_
            refine V_get (v := .int (g_I u4 11)) hc uin_M0 0 eM_0 rfl 21 (by decide) k_606 rfl d_M0_snapshot_136 ?_
            obtain ⟨hi, hw⟩ := hw
            refine V_iast hc 8 0 eM_8 rfl hi sM_8 d_M0_snapshot_139 ?_
            refine V_aload_n hc d_M0_snapshot_140 rfl 0 rfl ?_
            refine V_iconst (v := 3) hc d_M0_snapshot_141 (by decide) ?_
            refine V_put (ty := .int) hc uin_M0 0 eM_0 rfl 22 (by decide) t_M0 t_M0_ok n_M0 k_607 rfl (by decide +kernel) rfl rfl (Nat.le_of_ble_eq_true rfl) iM_12 d_M0_snapshot_142 ?_
            refine V_iconst (v := 3) hc d_M0_snapshot_145 (by decide) ?_
            exact V_iret hc NS_nest hr hw d_M0_snapshot_146
          · replace hw := hw.2 h
            refine V_aload_n hc d_M0_snapshot_71 rfl 0 rfl ?_
            refine V_aload_n hc d_M0_snapshot_72 rfl 0 rfl ?_
            refine V_iconst (v := 5) hc d_M0_snapshot_73 (by decide) ?_
            refine V_iconst (v := (-1)) hc d_M0_snapshot_74 (by decide) ?_
            refine V_iconst (v := (-1)) hc d_M0_snapshot_75 (by decide) ?_
            refine V_callVi (As := [.int 5, .int (-1), .int (-1)]) (st := [.ref (a 0)]) hc TS_good NS_nest (fun _ h => h) (c_M0_write l K cA D a 5 (-1) (-1) u2) k_781 k_10 k_784 k_783 kp_M0_write 0 eM_0 rfl q_M0_write (by decide) (Nat.zero_le _) (Nat.zero_le _) rfl (Nat.le_of_ble_eq_true rfl) d_M0_snapshot_76 hw (fun r5 u6 hw => ?_)
            try dsimp only at hw
            refine V_put (ty := .int) hc uin_M0 0 eM_0 rfl 23 (by decide) t_M0 t_M0_ok n_M0 k_608 rfl (by decide +kernel) rfl rfl (Nat.le_of_ble_eq_true rfl) iM_13 d_M0_snapshot_79 ?_
            refine V_aload_n hc d_M0_snapshot_82 rfl 0 rfl ?_
            refine V_iconst (v := 1) hc d_M0_snapshot_83 (by decide) ?_
            refine V_put (ty := .int) hc uin_M0 0 eM_0 rfl 22 (by decide) t_M0 t_M0_ok n_M0 k_607 rfl (by decide +kernel) rfl rfl (Nat.le_of_ble_eq_true rfl) iM_12 d_M0_snapshot_84 ?_
            refine V_iconst (v := 1) hc d_M0_snapshot_87 (by decide) ?_
            exact V_iret hc NS_nest hr hw d_M0_snapshot_88
        · replace hw := hw.2 h
          refine V_bipush (v := (-4)) hc d_M0_snapshot_61 (by decide) ?_
          exact V_iret hc NS_nest hr hw d_M0_snapshot_63
      · replace hw := hw.2 h
        refine V_aload_n hc d_M0_snapshot_37 rfl 0 rfl ?_
        refine V_iconst (v := 2) hc d_M0_snapshot_38 (by decide) ?_
        refine V_put (ty := .int) hc uin_M0 0 eM_0 rfl 22 (by decide) t_M0 t_M0_ok n_M0 k_607 rfl (by decide +kernel) rfl rfl (Nat.le_of_ble_eq_true rfl) iM_12 d_M0_snapshot_39 ?_
        refine V_aload_n hc d_M0_snapshot_42 rfl 0 rfl ?_
        refine V_aload_n hc d_M0_snapshot_43 rfl 0 rfl ?_
        refine V_get (v := .int (g_I z 4)) hc uin_M0 0 eM_0 rfl 4 (by decide) k_589 rfl d_M0_snapshot_44 ?_
        refine V_put (ty := .int) hc uin_M0 0 eM_0 rfl 24 (by decide) t_M0 t_M0_ok n_M0 k_609 rfl (by decide +kernel) rfl rfl (Nat.le_of_ble_eq_true rfl) iM_14 d_M0_snapshot_47 ?_
        refine V_iconst (v := 2) hc d_M0_snapshot_50 (by decide) ?_
        exact V_iret hc NS_nest hr hw d_M0_snapshot_51
    · replace hw := hw.2 h
      refine V_aload_n hc d_M0_snapshot_15 rfl 0 rfl ?_
      refine V_get (v := .int (g_I z 11)) hc uin_M0 0 eM_0 rfl 21 (by decide) k_606 rfl d_M0_snapshot_16 ?_
      refine V_aload_n hc d_M0_snapshot_19 rfl 0 rfl ?_
      refine V_get (v := .int (g_I z 0)) hc uin_M0 0 eM_0 rfl 0 (by decide) k_585 rfl d_M0_snapshot_20 ?_
      refine V_icmp_lt (tgt := 29) hc d_M0_snapshot_23 rfl (fun h => ?_) (fun h => ?_)
      · replace hw := hw.1 h
        refine V_aload_n hc d_M0_snapshot_29 rfl 0 rfl ?_
        refine V_get (v := .int (g_I z 12)) hc uin_M0 0 eM_0 rfl 22 (by decide) k_607 rfl d_M0_snapshot_30 ?_
        refine V_iconst (v := 1) hc d_M0_snapshot_33 (by decide) ?_
        refine V_icmp_ne (tgt := 52) hc d_M0_snapshot_34 rfl (fun h => ?_) (fun h => ?_)
        · replace hw := hw.1 h
          refine V_aload_n hc d_M0_snapshot_52 rfl 0 rfl ?_
          refine V_iconst (v := 1) hc d_M0_snapshot_53 (by decide) ?_
          refine V_iconst (v := 0) hc d_M0_snapshot_54 (by decide) ?_
          refine V_callVi (As := [.int 1, .int 0]) (st := []) hc TS_good NS_nest (fun _ h => h) (c_M0_room l K cA D a 1 0 z) k_761 k_10 k_764 k_763 kp_M0_room 0 eM_0 rfl q_M0_room (by decide) (Nat.zero_le _) (Nat.zero_le _) rfl (Nat.le_of_ble_eq_true rfl) d_M0_snapshot_55 hw (fun r7 u8 hw => ?_)
          try dsimp only at hw
          refine V_if_ne (tgt := 64) hc d_M0_snapshot_58 rfl (fun h => ?_) (fun h => ?_)
          · replace hw := hw.1 h
            refine V_aload_n hc d_M0_snapshot_64 rfl 0 rfl ?_
            refine V_get (v := .int (g_I u8 12)) hc uin_M0 0 eM_0 rfl 22 (by decide) k_607 rfl d_M0_snapshot_65 ?_
            refine V_if_ne (tgt := 89) hc d_M0_snapshot_68 rfl (fun h => ?_) (fun h => ?_)
            · replace hw := hw.1 h
              refine V_aload_n hc d_M0_snapshot_89 rfl 0 rfl ?_
              refine V_aload_n hc d_M0_snapshot_90 rfl 0 rfl ?_
              refine V_bipush (v := 6) hc d_M0_snapshot_91 (by decide) ?_
              refine V_iconst (v := (-1)) hc d_M0_snapshot_93 (by decide) ?_
              refine V_iconst (v := (-1)) hc d_M0_snapshot_94 (by decide) ?_
              refine V_callVi (As := [.int 6, .int (-1), .int (-1)]) (st := [.ref (a 0)]) hc TS_good NS_nest (fun _ h => h) (c_M0_write l K cA D a 6 (-1) (-1) u8) k_781 k_10 k_784 k_783 kp_M0_write 0 eM_0 rfl q_M0_write (by decide) (Nat.zero_le _) (Nat.zero_le _) rfl (Nat.le_of_ble_eq_true rfl) d_M0_snapshot_95 hw (fun r9 u10 hw => ?_)
              try dsimp only at hw
              refine V_put (ty := .int) hc uin_M0 0 eM_0 rfl 25 (by decide) t_M0 t_M0_ok n_M0 k_610 rfl (by decide +kernel) rfl rfl (Nat.le_of_ble_eq_true rfl) iM_15 d_M0_snapshot_98 ?_
              refine V_aload_n hc d_M0_snapshot_101 rfl 0 rfl ?_
              refine V_get (v := .ref (a 6)) hc uin_M0 0 eM_0 rfl 10 (by decide) k_595 rfl d_M0_snapshot_102 ?_
              refine V_aload_n hc d_M0_snapshot_105 rfl 0 rfl ?_
              refine V_get (v := .int r9) hc uin_M0 0 eM_0 rfl 25 (by decide) k_610 rfl d_M0_snapshot_106 ?_
              refine V_aload_n hc d_M0_snapshot_109 rfl 0 rfl ?_
              refine V_get (v := .int (g_I u10 13)) hc uin_M0 0 eM_0 rfl 23 (by decide) k_608 rfl d_M0_snapshot_110 ?_
              obtain ⟨hi, hw⟩ := hw
              refine V_iast hc 6 0 eM_6 rfl hi sM_6 d_M0_snapshot_113 ?_
              refine V_aload_n hc d_M0_snapshot_114 rfl 0 rfl ?_
              refine V_get (v := .ref (a 7)) hc uin_M0 0 eM_0 rfl 11 (by decide) k_596 rfl d_M0_snapshot_115 ?_
              refine V_aload_n hc d_M0_snapshot_118 rfl 0 rfl ?_
              refine V_get (v := .int r9) hc uin_M0 0 eM_0 rfl 25 (by decide) k_610 rfl d_M0_snapshot_119 ?_
              refine V_aload_n hc d_M0_snapshot_122 rfl 0 rfl ?_
              refine V_get (v := .int (g_I u10 14)) hc uin_M0 0 eM_0 rfl 24 (by decide) k_609 rfl d_M0_snapshot_123 ?_
              obtain ⟨hi, hw⟩ := hw
              refine V_iast hc 7 0 eM_7 rfl hi sM_7 d_M0_snapshot_126 ?_
              refine V_aload_n hc d_M0_snapshot_127 rfl 0 rfl ?_
              refine V_get (v := .ref (a 8)) hc uin_M0 0 eM_0 rfl 12 (by decide) k_597 rfl d_M0_snapshot_128 ?_
              refine V_aload_n hc d_M0_snapshot_131 rfl 0 rfl ?_
              refine V_get (v := .int r9) hc uin_M0 0 eM_0 rfl 25 (by decide) k_610 rfl d_M0_snapshot_132 ?_
              refine V_aload_n hc d_M0_snapshot_135 rfl 0 rfl ?_
              refine V_get (v := .int (g_I u10 11)) hc uin_M0 0 eM_0 rfl 21 (by decide) k_606 rfl d_M0_snapshot_136 ?_
              obtain ⟨hi, hw⟩ := hw
              refine V_iast hc 8 0 eM_8 rfl hi sM_8 d_M0_snapshot_139 ?_
              refine V_aload_n hc d_M0_snapshot_140 rfl 0 rfl ?_
              refine V_iconst (v := 3) hc d_M0_snapshot_141 (by decide) ?_
              refine V_put (ty := .int) hc uin_M0 0 eM_0 rfl 22 (by decide) t_M0 t_M0_ok n_M0 k_607 rfl (by decide +kernel) rfl rfl (Nat.le_of_ble_eq_true rfl) iM_12 d_M0_snapshot_142 ?_
              refine V_iconst (v := 3) hc d_M0_snapshot_145 (by decide) ?_
              exact V_iret hc NS_nest hr hw d_M0_snapshot_146
            · replace hw := hw.2 h
              refine V_aload_n hc d_M0_snapshot_71 rfl 0 rfl ?_
              refine V_aload_n hc d_M0_snapshot_72 rfl 0 rfl ?_
              refine V_iconst (v := 5) hc d_M0_snapshot_73 (by decide) ?_
              refine V_iconst (v := (-1)) hc d_M0_snapshot_74 (by decide) ?_
              refine V_iconst (v := (-1)) hc d_M0_snapshot_75 (by decide) ?_
              refine V_callVi (As := [.int 5, .int (-1), .int (-1)]) (st := [.ref (a 0)]) hc TS_good NS_nest (fun _ h => h) (c_M0_write l K cA D a 5 (-1) (-1) u8) k_781 k_10 k_784 k_783 kp_M0_write 0 eM_0 rfl q_M0_write (by decide) (Nat.zero_le _) (Nat.zero_le _) rfl (Nat.le_of_ble_eq_true rfl) d_M0_snapshot_76 hw (fun r11 u12 hw => ?_)
              try dsimp only at hw
              refine V_put (ty := .int) hc uin_M0 0 eM_0 rfl 23 (by decide) t_M0 t_M0_ok n_M0 k_608 rfl (by decide +kernel) rfl rfl (Nat.le_of_ble_eq_true rfl) iM_13 d_M0_snapshot_79 ?_
              refine V_aload_n hc d_M0_snapshot_82 rfl 0 rfl ?_
              refine V_iconst (v := 1) hc d_M0_snapshot_83 (by decide) ?_
              refine V_put (ty := .int) hc uin_M0 0 eM_0 rfl 22 (by decide) t_M0 t_M0_ok n_M0 k_607 rfl (by decide +kernel) rfl rfl (Nat.le_of_ble_eq_true rfl) iM_12 d_M0_snapshot_84 ?_
              refine V_iconst (v := 1) hc d_M0_snapshot_87 (by decide) ?_
              exact V_iret hc NS_nest hr hw d_M0_snapshot_88
          · replace hw := hw.2 h
            refine V_bipush (v := (-4)) hc d_M0_snapshot_61 (by decide) ?_
            exact V_iret hc NS_nest hr hw d_M0_snapshot_63
        · replace hw := hw.2 h
          refine V_aload_n hc d_M0_snapshot_37 rfl 0 rfl ?_
          refine V_iconst (v := 2) hc d_M0_snapshot_38 (by decide) ?_
          refine V_put (ty := .int) hc uin_M0 0 eM_0 rfl 22 (by decide) t_M0 t_M0_ok n_M0 k_607 rfl (by decide +kernel) rfl rfl (Nat.le_of_ble_eq_true rfl) iM_12 d_M0_snapshot_39 ?_
          refine V_aload_n hc d_M0_snapshot_42 rfl 0 rfl ?_
          refine V_aload_n hc d_M0_snapshot_43 rfl 0 rfl ?_
          refine V_get (v := .int (g_I z 4)) hc uin_M0 0 eM_0 rfl 4 (by decide) k_589 rfl d_M0_snapshot_44 ?_
          refine V_put (ty := .int) hc uin_M0 0 eM_0 rfl 24 (by decide) t_M0 t_M0_ok n_M0 k_609 rfl (by decide +kernel) rfl rfl (Nat.le_of_ble_eq_true rfl) iM_14 d_M0_snapshot_47 ?_
          refine V_iconst (v := 2) hc d_M0_snapshot_50 (by decide) ?_
          exact V_iret hc NS_nest hr hw d_M0_snapshot_51
      · replace hw := hw.2 h
        refine V_bipush (v := (-2)) hc d_M0_snapshot_26 (by decide) ?_
        exact V_iret hc NS_nest hr hw d_M0_snapshot_28
def w_M0_add (K : Nat) (x1 : Int32) (x2 : Int32) (x3 : Int32) (x4 : Int32) (z : St) (Q : Unit → St → Prop) : Prop :=
  ((8 ≤ g_I z 18 → Q () z) ∧ (¬ 8 ≤ g_I z 18 → (vp_in (g_I z 18) 8 ∧ (vp_in (g_I z 18) 8 ∧ (vp_in (g_I z 18) 8 ∧ (vp_in (g_I z 18) 8 ∧ Q () (s_I (s_A (s_A (s_A (s_A z 13 (g_I z 18 : Int32).toNatClampNeg x1) 14 (g_I z 18 : Int32).toNatClampNeg x2) 15 (g_I z 18 : Int32).toNatClampNeg x3) 16 (g_I z 18 : Int32).toNatClampNeg x4) 18 (g_I z 18 + 1))))))))
set_option maxHeartbeats 4000000 in
set_option maxRecDepth 100000 in
theorem c_M0_add (l : Launch) (K : Nat) (cA : Nat → ClassId) (D : va_G) (a : Nat → Nat) (x1 : Int32) (x2 : Int32) (x3 : Int32) (x4 : Int32) (z : St) : Ct l NS CL D (tyX cA) 19 a (WM K cA a) mkV y_M0_add (.code y_M0_add b_M0_add 5 none :: TS) { frames := 0, cells := 0, slots := 0, locals := 0 } [.ref (a 0), .int x1, .int x2, .int x3, .int x4] z (w_M0_add K x1 x2 x3 x4 z) := by
  refine Ct.of (by decide) (Nat.le_of_ble_eq_true rfl) adM ?_
  intro Q p e s m args below meth c hc hr hw
  unfold w_M0_add at hw
  refine V_st _ [(0, .ref (a 0)), (1, .int x1), (2, .int x2), (3, .int x3), (4, .int x4)] _ rfl rfl rfl ?_
  refine V_aload_n hc d_M0_add_0 rfl 0 rfl ?_
  refine V_get (v := .int (g_I z 18)) hc uin_M0 0 eM_0 rfl 31 (by decide) k_616 rfl d_M0_add_1 ?_
  refine V_bipush (v := 8) hc d_M0_add_4 (by decide) ?_
  refine V_icmp_ge (tgt := 60) hc d_M0_add_6 rfl (fun h => ?_) (fun h => ?_)
  · replace hw := hw.1 h
    exact V_vret hc NS_nest hr hw d_M0_add_60
  · replace hw := hw.2 h
    refine V_aload_n hc d_M0_add_9 rfl 0 rfl ?_
    refine V_get (v := .ref (a 14)) hc uin_M0 0 eM_0 rfl 32 (by decide) k_617 rfl d_M0_add_10 ?_
    refine V_aload_n hc d_M0_add_13 rfl 0 rfl ?_
    refine V_get (v := .int (g_I z 18)) hc uin_M0 0 eM_0 rfl 31 (by decide) k_616 rfl d_M0_add_14 ?_
    refine V_iload_n hc d_M0_add_17 rfl 1 rfl ?_
    obtain ⟨hi, hw⟩ := hw
    refine V_iast hc 14 0 eM_14 rfl hi sM_14 d_M0_add_18 ?_
    refine V_aload_n hc d_M0_add_19 rfl 0 rfl ?_
    refine V_get (v := .ref (a 15)) hc uin_M0 0 eM_0 rfl 33 (by decide) k_618 rfl d_M0_add_20 ?_
    refine V_aload_n hc d_M0_add_23 rfl 0 rfl ?_
    refine V_get (v := .int (g_I z 18)) hc uin_M0 0 eM_0 rfl 31 (by decide) k_616 rfl d_M0_add_24 ?_
    refine V_iload_n hc d_M0_add_27 rfl 2 rfl ?_
    obtain ⟨hi, hw⟩ := hw
    refine V_iast hc 15 0 eM_15 rfl hi sM_15 d_M0_add_28 ?_
    refine V_aload_n hc d_M0_add_29 rfl 0 rfl ?_
    refine V_get (v := .ref (a 16)) hc uin_M0 0 eM_0 rfl 34 (by decide) k_619 rfl d_M0_add_30 ?_
    refine V_aload_n hc d_M0_add_33 rfl 0 rfl ?_
    refine V_get (v := .int (g_I z 18)) hc uin_M0 0 eM_0 rfl 31 (by decide) k_616 rfl d_M0_add_34 ?_
    refine V_iload_n hc d_M0_add_37 rfl 3 rfl ?_
    obtain ⟨hi, hw⟩ := hw
    refine V_iast hc 16 0 eM_16 rfl hi sM_16 d_M0_add_38 ?_
    refine V_aload_n hc d_M0_add_39 rfl 0 rfl ?_
    refine V_get (v := .ref (a 17)) hc uin_M0 0 eM_0 rfl 35 (by decide) k_620 rfl d_M0_add_40 ?_
    refine V_aload_n hc d_M0_add_43 rfl 0 rfl ?_
    refine V_get (v := .int (g_I z 18)) hc uin_M0 0 eM_0 rfl 31 (by decide) k_616 rfl d_M0_add_44 ?_
    refine V_iload hc d_M0_add_47 4 rfl ?_
    obtain ⟨hi, hw⟩ := hw
    refine V_iast hc 17 0 eM_17 rfl hi sM_17 d_M0_add_49 ?_
    refine V_aload_n hc d_M0_add_50 rfl 0 rfl ?_
    refine V_dup hc d_M0_add_51 rfl ?_
    refine V_get (v := .int (g_I z 18)) hc uin_M0 0 eM_0 rfl 31 (by decide) k_616 rfl d_M0_add_52 ?_
    refine V_iconst (v := 1) hc d_M0_add_55 (by decide) ?_
    refine V_iadd hc d_M0_add_56 rfl ?_
    refine V_put (ty := .int) hc uin_M0 0 eM_0 rfl 31 (by decide) t_M0 t_M0_ok n_M0 k_616 rfl (by decide +kernel) rfl rfl (Nat.le_of_ble_eq_true rfl) iM_18 d_M0_add_57 ?_
    exact V_vret hc NS_nest hr hw d_M0_add_60
def w_M0_send (K : Nat) (x1 : Int32) (z : St) (Q : Unit → St → Prop) : Prop :=
  (vp_in x1 4 ∧ (vp_in x1 4 ∧ (vp_in (g_A z 10 (x1 : Int32).toNatClampNeg) 160 ∧ ((¬ (g_A z 0 ((g_A z 10 (x1 : Int32).toNatClampNeg) : Int32).toNatClampNeg) = 6 → (vp_in x1 4 ∧ (vp_in x1 4 ∧ w_M0_add K 0 (g_I z 7) (g_A z 10 (x1 : Int32).toNatClampNeg) (g_A z 11 (x1 : Int32).toNatClampNeg) (s_A z 12 (x1 : Int32).toNatClampNeg (g_I z 17)) (fun r1 u2 => Q () u2)))) ∧ ((g_A z 0 ((g_A z 10 (x1 : Int32).toNatClampNeg) : Int32).toNatClampNeg) = 6 → (vp_in x1 4 ∧ (vp_in x1 4 ∧ w_M0_add K 1 (g_I z 7) (g_A z 10 (x1 : Int32).toNatClampNeg) (g_A z 11 (x1 : Int32).toNatClampNeg) (s_A z 12 (x1 : Int32).toNatClampNeg (g_I z 17)) (fun r3 u4 => Q () u4))))))))
set_option maxHeartbeats 4000000 in
set_option maxRecDepth 100000 in
theorem c_M0_send (l : Launch) (K : Nat) (cA : Nat → ClassId) (D : va_G) (a : Nat → Nat) (x1 : Int32) (z : St) : Ct l NS CL D (tyX cA) 19 a (WM K cA a) mkV y_M0_send (.code y_M0_send b_M0_send 2 none :: TS) { frames := 1, cells := 0, slots := 0, locals := 24 } [.ref (a 0), .int x1] z (w_M0_send K x1 z) := by
  refine Ct.of (by decide) (Nat.le_of_ble_eq_true rfl) adM ?_
  intro Q p e s m args below meth c hc hr hw
  unfold w_M0_send at hw
  refine V_st _ [(0, .ref (a 0)), (1, .int x1)] _ rfl rfl rfl ?_
  refine V_aload_n hc d_M0_send_0 rfl 0 rfl ?_
  refine V_get (v := .ref (a 13)) hc uin_M0 0 eM_0 rfl 29 (by decide) k_614 rfl d_M0_send_1 ?_
  refine V_iload_n hc d_M0_send_4 rfl 1 rfl ?_
  refine V_aload_n hc d_M0_send_5 rfl 0 rfl ?_
  refine V_get (v := .int (g_I z 17)) hc uin_M0 0 eM_0 rfl 30 (by decide) k_615 rfl d_M0_send_6 ?_
  obtain ⟨hi, hw⟩ := hw
  refine V_iast hc 13 0 eM_13 rfl hi sM_13 d_M0_send_9 ?_
  refine V_aload_n hc d_M0_send_10 rfl 0 rfl ?_
  refine V_aload_n hc d_M0_send_11 rfl 0 rfl ?_
  refine V_get (v := .ref (a 1)) hc uin_M0 0 eM_0 rfl 5 (by decide) k_590 rfl d_M0_send_12 ?_
  refine V_aload_n hc d_M0_send_15 rfl 0 rfl ?_
  refine V_get (v := .ref (a 11)) hc uin_M0 0 eM_0 rfl 27 (by decide) k_612 rfl d_M0_send_16 ?_
  refine V_iload_n hc d_M0_send_19 rfl 1 rfl ?_
  obtain ⟨hi, hw⟩ := hw
  refine V_iald (x := g_A z 10 (x1 : Int32).toNatClampNeg) hc 11 0 eM_11 rfl hi rfl d_M0_send_20 ?_
  obtain ⟨hi, hw⟩ := hw
  refine V_iald (x := g_A z 0 ((g_A z 10 (x1 : Int32).toNatClampNeg) : Int32).toNatClampNeg) hc 1 0 eM_1 rfl hi rfl d_M0_send_21 ?_
  refine V_bipush (v := 6) hc d_M0_send_22 (by decide) ?_
  refine V_icmp_ne (tgt := 31) hc d_M0_send_24 rfl (fun h => ?_) (fun h => ?_)
  · replace hw := hw.1 h
    refine V_iconst (v := 0) hc d_M0_send_31 (by decide) ?_
    refine V_aload_n hc d_M0_send_32 rfl 0 rfl ?_
    refine V_get (v := .int (g_I z 7)) hc uin_M0 0 eM_0 rfl 17 (by decide) k_602 rfl d_M0_send_33 ?_
    refine V_aload_n hc d_M0_send_36 rfl 0 rfl ?_
    refine V_get (v := .ref (a 11)) hc uin_M0 0 eM_0 rfl 27 (by decide) k_612 rfl d_M0_send_37 ?_
    refine V_iload_n hc d_M0_send_40 rfl 1 rfl ?_
    obtain ⟨hi, hw⟩ := hw
    refine V_iald (x := g_A z 10 (x1 : Int32).toNatClampNeg) hc 11 0 eM_11 rfl hi rfl d_M0_send_41 ?_
    refine V_aload_n hc d_M0_send_42 rfl 0 rfl ?_
    refine V_get (v := .ref (a 12)) hc uin_M0 0 eM_0 rfl 28 (by decide) k_613 rfl d_M0_send_43 ?_
    refine V_iload_n hc d_M0_send_46 rfl 1 rfl ?_
    obtain ⟨hi, hw⟩ := hw
    refine V_iald (x := g_A z 11 (x1 : Int32).toNatClampNeg) hc 12 0 eM_12 rfl hi rfl d_M0_send_47 ?_
    refine V_callVv (As := [.int 0, .int (g_I z 7), .int (g_A z 10 (x1 : Int32).toNatClampNeg), .int (g_A z 11 (x1 : Int32).toNatClampNeg)]) (st := []) hc TS_good NS_nest (fun _ h => h) (c_M0_add l K cA D a 0 (g_I z 7) (g_A z 10 (x1 : Int32).toNatClampNeg) (g_A z 11 (x1 : Int32).toNatClampNeg) (s_A z 12 (x1 : Int32).toNatClampNeg (g_I z 17))) k_821 k_10 k_824 k_823 kp_M0_add 0 eM_0 rfl q_M0_add (by decide) (Nat.zero_le _) (Nat.zero_le _) rfl (Nat.le_of_ble_eq_true rfl) d_M0_send_48 hw (fun r1 u2 hw => ?_)
    try dsimp only at hw
    exact V_vret hc NS_nest hr hw d_M0_send_51
  · replace hw := hw.2 h
    refine V_iconst (v := 1) hc d_M0_send_27 (by decide) ?_
    refine V_goto (tgt := 32) hc d_M0_send_28 rfl ?_
    refine V_aload_n hc d_M0_send_32 rfl 0 rfl ?_
    refine V_get (v := .int (g_I z 7)) hc uin_M0 0 eM_0 rfl 17 (by decide) k_602 rfl d_M0_send_33 ?_
    refine V_aload_n hc d_M0_send_36 rfl 0 rfl ?_
    refine V_get (v := .ref (a 11)) hc uin_M0 0 eM_0 rfl 27 (by decide) k_612 rfl d_M0_send_37 ?_
    refine V_iload_n hc d_M0_send_40 rfl 1 rfl ?_
    obtain ⟨hi, hw⟩ := hw
    refine V_iald (x := g_A z 10 (x1 : Int32).toNatClampNeg) hc 11 0 eM_11 rfl hi rfl d_M0_send_41 ?_
    refine V_aload_n hc d_M0_send_42 rfl 0 rfl ?_
    refine V_get (v := .ref (a 12)) hc uin_M0 0 eM_0 rfl 28 (by decide) k_613 rfl d_M0_send_43 ?_
    refine V_iload_n hc d_M0_send_46 rfl 1 rfl ?_
    obtain ⟨hi, hw⟩ := hw
    refine V_iald (x := g_A z 11 (x1 : Int32).toNatClampNeg) hc 12 0 eM_12 rfl hi rfl d_M0_send_47 ?_
    refine V_callVv (As := [.int 1, .int (g_I z 7), .int (g_A z 10 (x1 : Int32).toNatClampNeg), .int (g_A z 11 (x1 : Int32).toNatClampNeg)]) (st := []) hc TS_good NS_nest (fun _ h => h) (c_M0_add l K cA D a 1 (g_I z 7) (g_A z 10 (x1 : Int32).toNatClampNeg) (g_A z 11 (x1 : Int32).toNatClampNeg) (s_A z 12 (x1 : Int32).toNatClampNeg (g_I z 17))) k_821 k_10 k_824 k_823 kp_M0_add 0 eM_0 rfl q_M0_add (by decide) (Nat.zero_le _) (Nat.zero_le _) rfl (Nat.le_of_ble_eq_true rfl) d_M0_send_48 hw (fun r3 u4 hw => ?_)
    try dsimp only at hw
    exact V_vret hc NS_nest hr hw d_M0_send_51
