def w_M0_alter (K : Nat) (x1 : Int32) (x2 : Int32) (z : St) (Q : Int32 → St → Prop) : Prop :=
  ((x1 < 0 → Q 0 z) ∧ (¬ x1 < 0 → ((g_I z 18 ≤ x1 → Q 0 z) ∧ (¬ g_I z 18 ≤ x1 → ((x2 = 0 → ((x2 = 0 → w_M0_take K x1 z (fun r1 u2 => Q 1 u2)) ∧ (¬ x2 = 0 → (vp_in x1 8 ∧ (vp_in x1 8 ∧ (vp_in x1 8 ∧ (vp_in x1 8 ∧ w_M0_add K (g_A z 13 (x1 : Int32).toNatClampNeg) (g_A z 14 (x1 : Int32).toNatClampNeg) (g_A z 15 (x1 : Int32).toNatClampNeg) (g_A z 16 (x1 : Int32).toNatClampNeg) z (fun r3 u4 => Q 1 u4)))))))) ∧ (¬ x2 = 0 → ((g_I z 18 < 8 → ((x2 = 0 → w_M0_take K x1 z (fun r5 u6 => Q 1 u6)) ∧ (¬ x2 = 0 → (vp_in x1 8 ∧ (vp_in x1 8 ∧ (vp_in x1 8 ∧ (vp_in x1 8 ∧ w_M0_add K (g_A z 13 (x1 : Int32).toNatClampNeg) (g_A z 14 (x1 : Int32).toNatClampNeg) (g_A z 15 (x1 : Int32).toNatClampNeg) (g_A z 16 (x1 : Int32).toNatClampNeg) z (fun r7 u8 => Q 1 u8)))))))) ∧ (¬ g_I z 18 < 8 → Q 0 z))))))))
set_option maxHeartbeats 4000000 in
set_option maxRecDepth 100000 in
theorem c_M0_alter (l : Launch) (K : Nat) (cA : Nat → ClassId) (D : va_G) (a : Nat → Nat) (x1 : Int32) (x2 : Int32) (z : St) : Ct l NS CL D (tyX cA) 19 a (WM K cA a) mkI y_M0_alter (.code y_M0_alter b_M0_alter 3 (some .boolean) :: TS) { frames := 1, cells := 0, slots := 0, locals := 24 } [.ref (a 0), .int x1, .int x2] z (w_M0_alter K x1 x2 z) := by
  refine Ct.of (by decide) (Nat.le_of_ble_eq_true rfl) adM ?_
  intro Q p e s m args below meth c hc hr hw
  unfold w_M0_alter at hw
  refine V_st _ [(0, .ref (a 0)), (1, .int x1), (2, .int x2)] _ rfl rfl rfl ?_
  refine V_iload_n hc d_M0_alter_0 rfl 1 rfl ?_
  refine V_if_lt (tgt := 25) hc d_M0_alter_1 rfl (fun h => ?_) (fun h => ?_)
  · replace hw := hw.1 h
    refine V_iconst (v := 0) hc d_M0_alter_25 (by decide) ?_
    exact V_zret hc NS_nest hr (by decide) hw d_M0_alter_26
  · replace hw := hw.2 h
    refine V_iload_n hc d_M0_alter_4 rfl 1 rfl ?_
    refine V_aload_n hc d_M0_alter_5 rfl 0 rfl ?_
    refine V_get (v := .int (g_I z 18)) hc uin_M0 0 eM_0 rfl 31 (by decide) k_616 rfl d_M0_alter_6 ?_
    refine V_icmp_ge (tgt := 25) hc d_M0_alter_9 rfl (fun h => ?_) (fun h => ?_)
    · replace hw := hw.1 h
      refine V_iconst (v := 0) hc d_M0_alter_25 (by decide) ?_
      exact V_zret hc NS_nest hr (by decide) hw d_M0_alter_26
    · replace hw := hw.2 h
      refine V_iload_n hc d_M0_alter_12 rfl 2 rfl ?_
      refine V_if_eq (tgt := 27) hc d_M0_alter_13 rfl (fun h => ?_) (fun h => ?_)
      · replace hw := hw.1 h
        refine V_iload_n hc d_M0_alter_27 rfl 2 rfl ?_
        refine V_if_eq (tgt := 62) hc d_M0_alter_28 rfl (fun h => ?_) (fun h => ?_)
        · replace hw := hw.1 h
          refine V_aload_n hc d_M0_alter_62 rfl 0 rfl ?_
          refine V_iload_n hc d_M0_alter_63 rfl 1 rfl ?_
          refine V_callVv (As := [.int x1]) (st := []) hc TS_good NS_nest (fun _ h => h) (c_M0_take l K cA D a x1 z) k_837 k_10 k_840 k_839 kp_M0_take 0 eM_0 rfl q_M0_take (by decide) (Nat.zero_le _) (Nat.zero_le _) rfl (Nat.le_of_ble_eq_true rfl) d_M0_alter_64 hw (fun r1 u2 hw => ?_)
          try dsimp only at hw
          refine V_iconst (v := 1) hc d_M0_alter_67 (by decide) ?_
          exact V_zret hc NS_nest hr (by decide) hw d_M0_alter_68
        · replace hw := hw.2 h
          refine V_aload_n hc d_M0_alter_31 rfl 0 rfl ?_
          refine V_aload_n hc d_M0_alter_32 rfl 0 rfl ?_
          refine V_get (v := .ref (a 14)) hc uin_M0 0 eM_0 rfl 32 (by decide) k_617 rfl d_M0_alter_33 ?_
          refine V_iload_n hc d_M0_alter_36 rfl 1 rfl ?_
          obtain ⟨hi, hw⟩ := hw
          refine V_iald (x := g_A z 13 (x1 : Int32).toNatClampNeg) hc 14 0 eM_14 rfl hi rfl d_M0_alter_37 ?_
          refine V_aload_n hc d_M0_alter_38 rfl 0 rfl ?_
          refine V_get (v := .ref (a 15)) hc uin_M0 0 eM_0 rfl 33 (by decide) k_618 rfl d_M0_alter_39 ?_
          refine V_iload_n hc d_M0_alter_42 rfl 1 rfl ?_
          obtain ⟨hi, hw⟩ := hw
          refine V_iald (x := g_A z 14 (x1 : Int32).toNatClampNeg) hc 15 0 eM_15 rfl hi rfl d_M0_alter_43 ?_
          refine V_aload_n hc d_M0_alter_44 rfl 0 rfl ?_
          refine V_get (v := .ref (a 16)) hc uin_M0 0 eM_0 rfl 34 (by decide) k_619 rfl d_M0_alter_45 ?_
          refine V_iload_n hc d_M0_alter_48 rfl 1 rfl ?_
          obtain ⟨hi, hw⟩ := hw
          refine V_iald (x := g_A z 15 (x1 : Int32).toNatClampNeg) hc 16 0 eM_16 rfl hi rfl d_M0_alter_49 ?_
          refine V_aload_n hc d_M0_alter_50 rfl 0 rfl ?_
          refine V_get (v := .ref (a 17)) hc uin_M0 0 eM_0 rfl 35 (by decide) k_620 rfl d_M0_alter_51 ?_
          refine V_iload_n hc d_M0_alter_54 rfl 1 rfl ?_
          obtain ⟨hi, hw⟩ := hw
          refine V_iald (x := g_A z 16 (x1 : Int32).toNatClampNeg) hc 17 0 eM_17 rfl hi rfl d_M0_alter_55 ?_
          refine V_callVv (As := [.int (g_A z 13 (x1 : Int32).toNatClampNeg), .int (g_A z 14 (x1 : Int32).toNatClampNeg), .int (g_A z 15 (x1 : Int32).toNatClampNeg), .int (g_A z 16 (x1 : Int32).toNatClampNeg)]) (st := []) hc TS_good NS_nest (fun _ h => h) (c_M0_add l K cA D a (g_A z 13 (x1 : Int32).toNatClampNeg) (g_A z 14 (x1 : Int32).toNatClampNeg) (g_A z 15 (x1 : Int32).toNatClampNeg) (g_A z 16 (x1 : Int32).toNatClampNeg) z) k_821 k_10 k_824 k_823 kp_M0_add 0 eM_0 rfl q_M0_add (by decide) (Nat.zero_le _) (Nat.zero_le _) rfl (Nat.le_of_ble_eq_true rfl) d_M0_alter_56 hw (fun r3 u4 hw => ?_)
          try dsimp only at hw
          refine V_goto (tgt := 67) hc d_M0_alter_59 rfl ?_
          refine V_iconst (v := 1) hc d_M0_alter_67 (by decide) ?_
          exact V_zret hc NS_nest hr (by decide) hw d_M0_alter_68
      · replace hw := hw.2 h
        refine V_aload_n hc d_M0_alter_16 rfl 0 rfl ?_
        refine V_get (v := .int (g_I z 18)) hc uin_M0 0 eM_0 rfl 31 (by decide) k_616 rfl d_M0_alter_17 ?_
        refine V_bipush (v := 8) hc d_M0_alter_20 (by decide) ?_
        refine V_icmp_lt (tgt := 27) hc d_M0_alter_22 rfl (fun h => ?_) (fun h => ?_)
        · replace hw := hw.1 h
          refine V_iload_n hc d_M0_alter_27 rfl 2 rfl ?_
          refine V_if_eq (tgt := 62) hc d_M0_alter_28 rfl (fun h => ?_) (fun h => ?_)
          · replace hw := hw.1 h
            refine V_aload_n hc d_M0_alter_62 rfl 0 rfl ?_
            refine V_iload_n hc d_M0_alter_63 rfl 1 rfl ?_
            refine V_callVv (As := [.int x1]) (st := []) hc TS_good NS_nest (fun _ h => h) (c_M0_take l K cA D a x1 z) k_837 k_10 k_840 k_839 kp_M0_take 0 eM_0 rfl q_M0_take (by decide) (Nat.zero_le _) (Nat.zero_le _) rfl (Nat.le_of_ble_eq_true rfl) d_M0_alter_64 hw (fun r5 u6 hw => ?_)
            try dsimp only at hw
            refine V_iconst (v := 1) hc d_M0_alter_67 (by decide) ?_
            exact V_zret hc NS_nest hr (by decide) hw d_M0_alter_68
          · replace hw := hw.2 h
            refine V_aload_n hc d_M0_alter_31 rfl 0 rfl ?_
            refine V_aload_n hc d_M0_alter_32 rfl 0 rfl ?_
            refine V_get (v := .ref (a 14)) hc uin_M0 0 eM_0 rfl 32 (by decide) k_617 rfl d_M0_alter_33 ?_
            refine V_iload_n hc d_M0_alter_36 rfl 1 rfl ?_
            obtain ⟨hi, hw⟩ := hw
            refine V_iald (x := g_A z 13 (x1 : Int32).toNatClampNeg) hc 14 0 eM_14 rfl hi rfl d_M0_alter_37 ?_
            refine V_aload_n hc d_M0_alter_38 rfl 0 rfl ?_
            refine V_get (v := .ref (a 15)) hc uin_M0 0 eM_0 rfl 33 (by decide) k_618 rfl d_M0_alter_39 ?_
            refine V_iload_n hc d_M0_alter_42 rfl 1 rfl ?_
            obtain ⟨hi, hw⟩ := hw
            refine V_iald (x := g_A z 14 (x1 : Int32).toNatClampNeg) hc 15 0 eM_15 rfl hi rfl d_M0_alter_43 ?_
            refine V_aload_n hc d_M0_alter_44 rfl 0 rfl ?_
            refine V_get (v := .ref (a 16)) hc uin_M0 0 eM_0 rfl 34 (by decide) k_619 rfl d_M0_alter_45 ?_
            refine V_iload_n hc d_M0_alter_48 rfl 1 rfl ?_
            obtain ⟨hi, hw⟩ := hw
            refine V_iald (x := g_A z 15 (x1 : Int32).toNatClampNeg) hc 16 0 eM_16 rfl hi rfl d_M0_alter_49 ?_
            refine V_aload_n hc d_M0_alter_50 rfl 0 rfl ?_
            refine V_get (v := .ref (a 17)) hc uin_M0 0 eM_0 rfl 35 (by decide) k_620 rfl d_M0_alter_51 ?_
            refine V_iload_n hc d_M0_alter_54 rfl 1 rfl ?_
            obtain ⟨hi, hw⟩ := hw
            refine V_iald (x := g_A z 16 (x1 : Int32).toNatClampNeg) hc 17 0 eM_17 rfl hi rfl d_M0_alter_55 ?_
            refine V_callVv (As := [.int (g_A z 13 (x1 : Int32).toNatClampNeg), .int (g_A z 14 (x1 : Int32).toNatClampNeg), .int (g_A z 15 (x1 : Int32).toNatClampNeg), .int (g_A z 16 (x1 : Int32).toNatClampNeg)]) (st := []) hc TS_good NS_nest (fun _ h => h) (c_M0_add l K cA D a (g_A z 13 (x1 : Int32).toNatClampNeg) (g_A z 14 (x1 : Int32).toNatClampNeg) (g_A z 15 (x1 : Int32).toNatClampNeg) (g_A z 16 (x1 : Int32).toNatClampNeg) z) k_821 k_10 k_824 k_823 kp_M0_add 0 eM_0 rfl q_M0_add (by decide) (Nat.zero_le _) (Nat.zero_le _) rfl (Nat.le_of_ble_eq_true rfl) d_M0_alter_56 hw (fun r7 u8 hw => ?_)
            try dsimp only at hw
            refine V_goto (tgt := 67) hc d_M0_alter_59 rfl ?_
            refine V_iconst (v := 1) hc d_M0_alter_67 (by decide) ?_
            exact V_zret hc NS_nest hr (by decide) hw d_M0_alter_68
        · replace hw := hw.2 h
          refine V_iconst (v := 0) hc d_M0_alter_25 (by decide) ?_
          exact V_zret hc NS_nest hr (by decide) hw d_M0_alter_26
def w_M0_flight (K : Nat)  (z : St) (Q : Int32 → St → Prop) : Prop :=
  Q (g_I z 18) z
set_option maxHeartbeats 4000000 in
set_option maxRecDepth 100000 in
theorem c_M0_flight (l : Launch) (K : Nat) (cA : Nat → ClassId) (D : va_G) (a : Nat → Nat)  (z : St) : Ct l NS CL D (tyX cA) 19 a (WM K cA a) mkI y_M0_flight (.code y_M0_flight b_M0_flight 1 (some .int) :: TS) { frames := 0, cells := 0, slots := 0, locals := 0 } [.ref (a 0)] z (w_M0_flight K  z) := by
  refine Ct.of (by decide) (Nat.le_of_ble_eq_true rfl) adM ?_
  intro Q p e s m args below meth c hc hr hw
  unfold w_M0_flight at hw
  refine V_st _ [(0, .ref (a 0))] _ rfl rfl rfl ?_
  refine V_aload_n hc d_M0_flight_0 rfl 0 rfl ?_
  refine V_get (v := .int (g_I z 18)) hc uin_M0 0 eM_0 rfl 31 (by decide) k_616 rfl d_M0_flight_1 ?_
  exact V_iret hc NS_nest hr hw d_M0_flight_4
def w_M0_packet (K : Nat) (x1 : Int32) (x2 : Int32) (z : St) (Q : Int32 → St → Prop) : Prop :=
  ((x1 < 0 → Q (-2) z) ∧ (¬ x1 < 0 → ((g_I z 18 ≤ x1 → Q (-2) z) ∧ (¬ g_I z 18 ≤ x1 → ((x2 < 0 → Q (-2) z) ∧ (¬ x2 < 0 → ((x2 ≤ 3 → ((¬ x2 = 0 → ((¬ x2 = 1 → ((¬ x2 = 2 → (vp_in x1 8 ∧ Q (g_A z 16 (x1 : Int32).toNatClampNeg) z)) ∧ (x2 = 2 → (vp_in x1 8 ∧ Q (g_A z 15 (x1 : Int32).toNatClampNeg) z)))) ∧ (x2 = 1 → (vp_in x1 8 ∧ Q (g_A z 14 (x1 : Int32).toNatClampNeg) z)))) ∧ (x2 = 0 → (vp_in x1 8 ∧ Q (g_A z 13 (x1 : Int32).toNatClampNeg) z)))) ∧ (¬ x2 ≤ 3 → Q (-2) z))))))))
set_option maxHeartbeats 4000000 in
set_option maxRecDepth 100000 in
theorem c_M0_packet (l : Launch) (K : Nat) (cA : Nat → ClassId) (D : va_G) (a : Nat → Nat) (x1 : Int32) (x2 : Int32) (z : St) : Ct l NS CL D (tyX cA) 19 a (WM K cA a) mkI y_M0_packet (.code y_M0_packet b_M0_packet 3 (some .int) :: TS) { frames := 0, cells := 0, slots := 0, locals := 0 } [.ref (a 0), .int x1, .int x2] z (w_M0_packet K x1 x2 z) := by
  refine Ct.of (by decide) (Nat.le_of_ble_eq_true rfl) adM ?_
  intro Q p e s m args below meth c hc hr hw
  unfold w_M0_packet at hw
  refine V_st _ [(0, .ref (a 0)), (1, .int x1), (2, .int x2)] _ rfl rfl rfl ?_
  refine V_iload_n hc d_M0_packet_0 rfl 1 rfl ?_
  refine V_if_lt (tgt := 21) hc d_M0_packet_1 rfl (fun h => ?_) (fun h => ?_)
  · replace hw := hw.1 h
    refine V_bipush (v := (-2)) hc d_M0_packet_21 (by decide) ?_
    exact V_iret hc NS_nest hr hw d_M0_packet_23
  · replace hw := hw.2 h
    refine V_iload_n hc d_M0_packet_4 rfl 1 rfl ?_
    refine V_aload_n hc d_M0_packet_5 rfl 0 rfl ?_
    refine V_get (v := .int (g_I z 18)) hc uin_M0 0 eM_0 rfl 31 (by decide) k_616 rfl d_M0_packet_6 ?_
    refine V_icmp_ge (tgt := 21) hc d_M0_packet_9 rfl (fun h => ?_) (fun h => ?_)
    · replace hw := hw.1 h
      refine V_bipush (v := (-2)) hc d_M0_packet_21 (by decide) ?_
      exact V_iret hc NS_nest hr hw d_M0_packet_23
    · replace hw := hw.2 h
      refine V_iload_n hc d_M0_packet_12 rfl 2 rfl ?_
      refine V_if_lt (tgt := 21) hc d_M0_packet_13 rfl (fun h => ?_) (fun h => ?_)
      · replace hw := hw.1 h
        refine V_bipush (v := (-2)) hc d_M0_packet_21 (by decide) ?_
        exact V_iret hc NS_nest hr hw d_M0_packet_23
      · replace hw := hw.2 h
        refine V_iload_n hc d_M0_packet_16 rfl 2 rfl ?_
        refine V_iconst (v := 3) hc d_M0_packet_17 (by decide) ?_
        refine V_icmp_le (tgt := 24) hc d_M0_packet_18 rfl (fun h => ?_) (fun h => ?_)
        · replace hw := hw.1 h
          refine V_iload_n hc d_M0_packet_24 rfl 2 rfl ?_
          refine V_if_ne (tgt := 37) hc d_M0_packet_25 rfl (fun h => ?_) (fun h => ?_)
          · replace hw := hw.1 h
            refine V_iload_n hc d_M0_packet_37 rfl 2 rfl ?_
            refine V_iconst (v := 1) hc d_M0_packet_38 (by decide) ?_
            refine V_icmp_ne (tgt := 51) hc d_M0_packet_39 rfl (fun h => ?_) (fun h => ?_)
            · replace hw := hw.1 h
              refine V_iload_n hc d_M0_packet_51 rfl 2 rfl ?_
              refine V_iconst (v := 2) hc d_M0_packet_52 (by decide) ?_
              refine V_icmp_ne (tgt := 65) hc d_M0_packet_53 rfl (fun h => ?_) (fun h => ?_)
              · replace hw := hw.1 h
                refine V_aload_n hc d_M0_packet_65 rfl 0 rfl ?_
                refine V_get (v := .ref (a 17)) hc uin_M0 0 eM_0 rfl 35 (by decide) k_620 rfl d_M0_packet_66 ?_
                refine V_iload_n hc d_M0_packet_69 rfl 1 rfl ?_
                obtain ⟨hi, hw⟩ := hw
                refine V_iald (x := g_A z 16 (x1 : Int32).toNatClampNeg) hc 17 0 eM_17 rfl hi rfl d_M0_packet_70 ?_
                exact V_iret hc NS_nest hr hw d_M0_packet_71
              · replace hw := hw.2 h
                refine V_aload_n hc d_M0_packet_56 rfl 0 rfl ?_
                refine V_get (v := .ref (a 16)) hc uin_M0 0 eM_0 rfl 34 (by decide) k_619 rfl d_M0_packet_57 ?_
                refine V_iload_n hc d_M0_packet_60 rfl 1 rfl ?_
                obtain ⟨hi, hw⟩ := hw
                refine V_iald (x := g_A z 15 (x1 : Int32).toNatClampNeg) hc 16 0 eM_16 rfl hi rfl d_M0_packet_61 ?_
                refine V_goto (tgt := 71) hc d_M0_packet_62 rfl ?_
                exact V_iret hc NS_nest hr hw d_M0_packet_71
            · replace hw := hw.2 h
              refine V_aload_n hc d_M0_packet_42 rfl 0 rfl ?_
              refine V_get (v := .ref (a 15)) hc uin_M0 0 eM_0 rfl 33 (by decide) k_618 rfl d_M0_packet_43 ?_
              refine V_iload_n hc d_M0_packet_46 rfl 1 rfl ?_
              obtain ⟨hi, hw⟩ := hw
              refine V_iald (x := g_A z 14 (x1 : Int32).toNatClampNeg) hc 15 0 eM_15 rfl hi rfl d_M0_packet_47 ?_
              refine V_goto (tgt := 71) hc d_M0_packet_48 rfl ?_
              exact V_iret hc NS_nest hr hw d_M0_packet_71
          · replace hw := hw.2 h
            refine V_aload_n hc d_M0_packet_28 rfl 0 rfl ?_
            refine V_get (v := .ref (a 14)) hc uin_M0 0 eM_0 rfl 32 (by decide) k_617 rfl d_M0_packet_29 ?_
            refine V_iload_n hc d_M0_packet_32 rfl 1 rfl ?_
            obtain ⟨hi, hw⟩ := hw
            refine V_iald (x := g_A z 13 (x1 : Int32).toNatClampNeg) hc 14 0 eM_14 rfl hi rfl d_M0_packet_33 ?_
            refine V_goto (tgt := 71) hc d_M0_packet_34 rfl ?_
            exact V_iret hc NS_nest hr hw d_M0_packet_71
        · replace hw := hw.2 h
          refine V_bipush (v := (-2)) hc d_M0_packet_21 (by decide) ?_
          exact V_iret hc NS_nest hr hw d_M0_packet_23
def w_M0_apply (K : Nat)  (z : St) (Q : Int32 → St → Prop) : Prop :=
  ((0 ≤ g_I z 20 → (vp_in (g_I z 19) 160 ∧ w_M0_acknowledge K  (s_I (s_I (s_A z 17 (g_I z 19 : Int32).toNatClampNeg (g_I z 20)) 19 (g_I z 19 + 1)) 20 (-1)) (fun r1 u2 => Q 1 u2))) ∧ (¬ 0 ≤ g_I z 20 → Q 0 z))
set_option maxHeartbeats 4000000 in
set_option maxRecDepth 100000 in
theorem c_M0_apply (l : Launch) (K : Nat) (cA : Nat → ClassId) (D : va_G) (a : Nat → Nat)  (z : St) : Ct l NS CL D (tyX cA) 19 a (WM K cA a) mkI y_M0_apply (.code y_M0_apply b_M0_apply 1 (some .boolean) :: TS) { frames := 2, cells := 0, slots := 0, locals := 45 } [.ref (a 0)] z (w_M0_apply K  z) := by
  refine Ct.of (by decide) (Nat.le_of_ble_eq_true rfl) adM ?_
  intro Q p e s m args below meth c hc hr hw
  unfold w_M0_apply at hw
  refine V_st _ [(0, .ref (a 0))] _ rfl rfl rfl ?_
  refine V_aload_n hc d_M0_apply_0 rfl 0 rfl ?_
  refine V_get (v := .int (g_I z 20)) hc uin_M0 0 eM_0 rfl 38 (by decide) k_623 rfl d_M0_apply_1 ?_
  refine V_if_ge (tgt := 9) hc d_M0_apply_4 rfl (fun h => ?_) (fun h => ?_)
  · replace hw := hw.1 h
    refine V_aload_n hc d_M0_apply_9 rfl 0 rfl ?_
    refine V_get (v := .ref (a 18)) hc uin_M0 0 eM_0 rfl 37 (by decide) k_622 rfl d_M0_apply_10 ?_
    refine V_aload_n hc d_M0_apply_13 rfl 0 rfl ?_
    refine V_get (v := .int (g_I z 19)) hc uin_M0 0 eM_0 rfl 36 (by decide) k_621 rfl d_M0_apply_14 ?_
    refine V_aload_n hc d_M0_apply_17 rfl 0 rfl ?_
    refine V_get (v := .int (g_I z 20)) hc uin_M0 0 eM_0 rfl 38 (by decide) k_623 rfl d_M0_apply_18 ?_
    obtain ⟨hi, hw⟩ := hw
    refine V_iast hc 18 0 eM_18 rfl hi sM_18 d_M0_apply_21 ?_
    refine V_aload_n hc d_M0_apply_22 rfl 0 rfl ?_
    refine V_dup hc d_M0_apply_23 rfl ?_
    refine V_get (v := .int (g_I z 19)) hc uin_M0 0 eM_0 rfl 36 (by decide) k_621 rfl d_M0_apply_24 ?_
    refine V_iconst (v := 1) hc d_M0_apply_27 (by decide) ?_
    refine V_iadd hc d_M0_apply_28 rfl ?_
    refine V_put (ty := .int) hc uin_M0 0 eM_0 rfl 36 (by decide) t_M0 t_M0_ok n_M0 k_621 rfl (by decide +kernel) rfl rfl (Nat.le_of_ble_eq_true rfl) iM_19 d_M0_apply_29 ?_
    refine V_aload_n hc d_M0_apply_32 rfl 0 rfl ?_
    refine V_iconst (v := (-1)) hc d_M0_apply_33 (by decide) ?_
    refine V_put (ty := .int) hc uin_M0 0 eM_0 rfl 38 (by decide) t_M0 t_M0_ok n_M0 k_623 rfl (by decide +kernel) rfl rfl (Nat.le_of_ble_eq_true rfl) iM_20 d_M0_apply_34 ?_
    refine V_aload_n hc d_M0_apply_37 rfl 0 rfl ?_
    refine V_callVv (As := []) (st := []) hc TS_good NS_nest (fun _ h => h) (c_M0_acknowledge l K cA D a  (s_I (s_I (s_A z 17 (g_I z 19 : Int32).toNatClampNeg (g_I z 20)) 19 (g_I z 19 + 1)) 20 (-1))) k_845 k_10 k_848 k_847 kp_M0_acknowledge 0 eM_0 rfl q_M0_acknowledge (by decide) (Nat.zero_le _) (Nat.zero_le _) rfl (Nat.le_of_ble_eq_true rfl) d_M0_apply_38 hw (fun r1 u2 hw => ?_)
    try dsimp only at hw
    refine V_iconst (v := 1) hc d_M0_apply_41 (by decide) ?_
    exact V_zret hc NS_nest hr (by decide) hw d_M0_apply_42
  · replace hw := hw.2 h
    refine V_iconst (v := 0) hc d_M0_apply_7 (by decide) ?_
    exact V_zret hc NS_nest hr (by decide) hw d_M0_apply_8
