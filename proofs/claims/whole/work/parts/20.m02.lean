def w_M0_emit (K : Nat) (x1 : Int32) (z : St) (Q : Unit → St → Prop) : Prop :=
  (vp_in (g_I z 16) 4 ∧ (vp_in (g_I z 16) 4 ∧ w_M0_send K ((g_I z 16 + 1) - 1) (s_I (s_I (s_A (s_A z 10 (g_I z 16 : Int32).toNatClampNeg x1) 11 (g_I z 16 : Int32).toNatClampNeg (g_I z 9)) 9 x1) 16 (g_I z 16 + 1)) (fun r1 u2 => Q () u2)))
set_option maxHeartbeats 4000000 in
set_option maxRecDepth 100000 in
theorem c_M0_emit (l : Launch) (K : Nat) (cA : Nat → ClassId) (D : va_G) (a : Nat → Nat) (x1 : Int32) (z : St) : Ct l NS CL D (tyX cA) 19 a (WM K cA a) mkV y_M0_emit (.code y_M0_emit b_M0_emit 2 none :: TS) { frames := 2, cells := 0, slots := 0, locals := 45 } [.ref (a 0), .int x1] z (w_M0_emit K x1 z) := by
  refine Ct.of (by decide) (Nat.le_of_ble_eq_true rfl) adM ?_
  intro Q p e s m args below meth c hc hr hw
  unfold w_M0_emit at hw
  refine V_st _ [(0, .ref (a 0)), (1, .int x1)] _ rfl rfl rfl ?_
  refine V_aload_n hc d_M0_emit_0 rfl 0 rfl ?_
  refine V_get (v := .ref (a 11)) hc uin_M0 0 eM_0 rfl 27 (by decide) k_612 rfl d_M0_emit_1 ?_
  refine V_aload_n hc d_M0_emit_4 rfl 0 rfl ?_
  refine V_get (v := .int (g_I z 16)) hc uin_M0 0 eM_0 rfl 26 (by decide) k_611 rfl d_M0_emit_5 ?_
  refine V_iload_n hc d_M0_emit_8 rfl 1 rfl ?_
  obtain ⟨hi, hw⟩ := hw
  refine V_iast hc 11 0 eM_11 rfl hi sM_11 d_M0_emit_9 ?_
  refine V_aload_n hc d_M0_emit_10 rfl 0 rfl ?_
  refine V_get (v := .ref (a 12)) hc uin_M0 0 eM_0 rfl 28 (by decide) k_613 rfl d_M0_emit_11 ?_
  refine V_aload_n hc d_M0_emit_14 rfl 0 rfl ?_
  refine V_get (v := .int (g_I z 16)) hc uin_M0 0 eM_0 rfl 26 (by decide) k_611 rfl d_M0_emit_15 ?_
  refine V_aload_n hc d_M0_emit_18 rfl 0 rfl ?_
  refine V_get (v := .int (g_I z 9)) hc uin_M0 0 eM_0 rfl 19 (by decide) k_604 rfl d_M0_emit_19 ?_
  obtain ⟨hi, hw⟩ := hw
  refine V_iast hc 12 0 eM_12 rfl hi sM_12 d_M0_emit_22 ?_
  refine V_aload_n hc d_M0_emit_23 rfl 0 rfl ?_
  refine V_iload_n hc d_M0_emit_24 rfl 1 rfl ?_
  refine V_put (ty := .int) hc uin_M0 0 eM_0 rfl 19 (by decide) t_M0 t_M0_ok n_M0 k_604 rfl (by decide +kernel) rfl rfl (Nat.le_of_ble_eq_true rfl) iM_9 d_M0_emit_25 ?_
  refine V_aload_n hc d_M0_emit_28 rfl 0 rfl ?_
  refine V_dup hc d_M0_emit_29 rfl ?_
  refine V_get (v := .int (g_I z 16)) hc uin_M0 0 eM_0 rfl 26 (by decide) k_611 rfl d_M0_emit_30 ?_
  refine V_iconst (v := 1) hc d_M0_emit_33 (by decide) ?_
  refine V_iadd hc d_M0_emit_34 rfl ?_
  refine V_put (ty := .int) hc uin_M0 0 eM_0 rfl 26 (by decide) t_M0 t_M0_ok n_M0 k_611 rfl (by decide +kernel) rfl rfl (Nat.le_of_ble_eq_true rfl) iM_16 d_M0_emit_35 ?_
  refine V_aload_n hc d_M0_emit_38 rfl 0 rfl ?_
  refine V_aload_n hc d_M0_emit_39 rfl 0 rfl ?_
  refine V_get (v := .int (g_I z 16 + 1)) hc uin_M0 0 eM_0 rfl 26 (by decide) k_611 rfl d_M0_emit_40 ?_
  refine V_iconst (v := 1) hc d_M0_emit_43 (by decide) ?_
  refine V_isub hc d_M0_emit_44 rfl ?_
  refine V_callVv (As := [.int ((g_I z 16 + 1) - 1)]) (st := []) hc TS_good NS_nest (fun _ h => h) (c_M0_send l K cA D a ((g_I z 16 + 1) - 1) (s_I (s_I (s_A (s_A z 10 (g_I z 16 : Int32).toNatClampNeg x1) 11 (g_I z 16 : Int32).toNatClampNeg (g_I z 9)) 9 x1) 16 (g_I z 16 + 1))) k_817 k_10 k_820 k_819 kp_M0_send 0 eM_0 rfl q_M0_send (by decide) (Nat.zero_le _) (Nat.zero_le _) rfl (Nat.le_of_ble_eq_true rfl) d_M0_emit_45 hw (fun r1 u2 hw => ?_)
  try dsimp only at hw
  exact V_vret hc NS_nest hr hw d_M0_emit_48
def w_M0_step_17 (K : Nat) (Q : Int32 → St → Prop) : Nat → Int32 → Int32 → Int32 → St → Prop
  | 0, _, _, _, _ => False
  | n + 1, v1, v2, v3, z => ((v1 ≤ v2 → Q v2 z) ∧ (¬ v1 ≤ v2 → ((g_I z 4 ≤ g_I z 10 → Q v2 z) ∧ (¬ g_I z 4 ≤ g_I z 10 → ((¬ v3 = 0 → Q v2 z) ∧ (v3 = 0 → (vp_in (g_I z 10) 160 ∧ ((¬ (g_A z 0 (g_I z 10 : Int32).toNatClampNeg) = 6 → (vp_in (g_I z 10) 160 ∧ ((¬ (g_A z 0 (g_I z 10 : Int32).toNatClampNeg) = 3 → w_M0_step_17 K Q n v1 (v2 + 1) 0 (s_I z 10 (g_I z 10 + 1))) ∧ ((g_A z 0 (g_I z 10 : Int32).toNatClampNeg) = 3 → ((g_I z 10 ≤ g_I z 8 → w_M0_step_17 K Q n v1 (v2 + 1) 0 (s_I z 10 (g_I z 10 + 1))) ∧ (¬ g_I z 10 ≤ g_I z 8 → ((g_I z 16 < 4 → w_M0_emit K (g_I z 10) z (fun r1 u2 => w_M0_step_17 K Q n v1 (v2 + 1) 0 (s_I u2 10 (g_I u2 10 + 1)))) ∧ (¬ g_I z 16 < 4 → w_M0_step_17 K Q n v1 v2 1 z)))))))) ∧ ((g_A z 0 (g_I z 10 : Int32).toNatClampNeg) = 6 → ((¬ g_I z 12 = 3 → (vp_in (g_I z 10) 160 ∧ ((¬ (g_A z 0 (g_I z 10 : Int32).toNatClampNeg) = 3 → w_M0_step_17 K Q n v1 (v2 + 1) 0 (s_I z 10 (g_I z 10 + 1))) ∧ ((g_A z 0 (g_I z 10 : Int32).toNatClampNeg) = 3 → ((g_I z 10 ≤ g_I z 8 → w_M0_step_17 K Q n v1 (v2 + 1) 0 (s_I z 10 (g_I z 10 + 1))) ∧ (¬ g_I z 10 ≤ g_I z 8 → ((g_I z 16 < 4 → w_M0_emit K (g_I z 10) z (fun r3 u4 => w_M0_step_17 K Q n v1 (v2 + 1) 0 (s_I u4 10 (g_I u4 10 + 1)))) ∧ (¬ g_I z 16 < 4 → w_M0_step_17 K Q n v1 v2 1 z)))))))) ∧ (g_I z 12 = 3 → ((¬ g_I z 10 = g_I z 15 → (vp_in (g_I z 10) 160 ∧ ((¬ (g_A z 0 (g_I z 10 : Int32).toNatClampNeg) = 3 → w_M0_step_17 K Q n v1 (v2 + 1) 0 (s_I z 10 (g_I z 10 + 1))) ∧ ((g_A z 0 (g_I z 10 : Int32).toNatClampNeg) = 3 → ((g_I z 10 ≤ g_I z 8 → w_M0_step_17 K Q n v1 (v2 + 1) 0 (s_I z 10 (g_I z 10 + 1))) ∧ (¬ g_I z 10 ≤ g_I z 8 → ((g_I z 16 < 4 → w_M0_emit K (g_I z 10) z (fun r5 u6 => w_M0_step_17 K Q n v1 (v2 + 1) 0 (s_I u6 10 (g_I u6 10 + 1)))) ∧ (¬ g_I z 16 < 4 → w_M0_step_17 K Q n v1 v2 1 z)))))))) ∧ (g_I z 10 = g_I z 15 → ((g_I z 16 < 4 → w_M0_emit K (g_I z 10) z (fun r7 u8 => w_M0_step_17 K Q n v1 (v2 + 1) 0 (s_I (s_I (s_I u8 12 0) 11 (g_I u8 11 + g_I u8 1)) 10 (g_I u8 10 + 1)))) ∧ (¬ g_I z 16 < 4 → w_M0_step_17 K Q n v1 v2 1 z)))))))))))))))
def w_M0_step (K : Nat) (x1 : Int32) (z : St) (Q : Int32 → St → Prop) : Prop :=
  ((x1 < 0 → Q (-2) z) ∧ (¬ x1 < 0 → ((x1 ≤ 100 → (∃ n9, w_M0_step_17 K Q n9 x1 0 0 z)) ∧ (¬ x1 ≤ 100 → Q (-2) z))))
set_option maxHeartbeats 4000000 in
set_option maxRecDepth 100000 in
theorem l_M0_step_17 (l : Launch) (K : Nat) (cA : Nat → ClassId) (D : va_G) (a : Nat → Nat) (Q : Int32 → St → Prop) (p : Program) (e : Env) (s : State) (m : MethodId) (args : Array Value) (below : List Frame) (meth : Method) (c : Code) (hc : Cx TS NS CL D (tyX cA) p s m args meth c b_M0_step 6 y_M0_step.cls) (hr : meth.sig.returnType = (some .int)) : ∀ (n : Nat) (v1 : Int32) (v2 : Int32) (v3 : Int32) (z : St), w_M0_step_17 K Q n v1 v2 v3 z → V CL p l e { frames := 3, cells := 0, slots := 0, locals := 66 } s m args below meth c 6 D (AX 19 a s.heap.size) 0 0 (MQ below (Qg NS CL D (tyX cA) (WM K cA a) (AX 19 a s.heap.size) mkI Q) args s 0 0 (AX 19 a s.heap.size)) (WM K cA a z) 17 [(0, .ref (a 0)), (1, .int v1), (2, .int v2), (3, .int v3)] [] := by
  intro n
  induction n with
  | zero =>
    intro v1 v2 v3 z hw
    exact hw.elim
  | succ n ih =>
    intro v1 v2 v3 z hw
    unfold w_M0_step_17 at hw
    refine V_iload_n hc d_M0_step_17 rfl 2 rfl ?_
    refine V_iload_n hc d_M0_step_18 rfl 1 rfl ?_
    refine V_icmp_ge (tgt := 196) hc d_M0_step_19 rfl (fun h => ?_) (fun h => ?_)
    · replace hw := hw.1 h
      refine V_iload_n hc d_M0_step_196 rfl 2 rfl ?_
      exact V_iret hc NS_nest hr hw d_M0_step_197
    · replace hw := hw.2 h
      refine V_aload_n hc d_M0_step_22 rfl 0 rfl ?_
      refine V_get (v := .int (g_I z 10)) hc uin_M0 0 eM_0 rfl 20 (by decide) k_605 rfl d_M0_step_23 ?_
      refine V_aload_n hc d_M0_step_26 rfl 0 rfl ?_
      refine V_get (v := .int (g_I z 4)) hc uin_M0 0 eM_0 rfl 4 (by decide) k_589 rfl d_M0_step_27 ?_
      refine V_icmp_ge (tgt := 196) hc d_M0_step_30 rfl (fun h => ?_) (fun h => ?_)
      · replace hw := hw.1 h
        refine V_iload_n hc d_M0_step_196 rfl 2 rfl ?_
        exact V_iret hc NS_nest hr hw d_M0_step_197
      · replace hw := hw.2 h
        refine V_iload_n hc d_M0_step_33 rfl 3 rfl ?_
        refine V_if_ne (tgt := 196) hc d_M0_step_34 rfl (fun h => ?_) (fun h => ?_)
        · replace hw := hw.1 h
          refine V_iload_n hc d_M0_step_196 rfl 2 rfl ?_
          exact V_iret hc NS_nest hr hw d_M0_step_197
        · replace hw := hw.2 h
          refine V_aload_n hc d_M0_step_37 rfl 0 rfl ?_
          refine V_get (v := .ref (a 1)) hc uin_M0 0 eM_0 rfl 5 (by decide) k_590 rfl d_M0_step_38 ?_
          refine V_aload_n hc d_M0_step_41 rfl 0 rfl ?_
          refine V_get (v := .int (g_I z 10)) hc uin_M0 0 eM_0 rfl 20 (by decide) k_605 rfl d_M0_step_42 ?_
          obtain ⟨hi, hw⟩ := hw
          refine V_iald (x := g_A z 0 (g_I z 10 : Int32).toNatClampNeg) hc 1 0 eM_1 rfl hi rfl d_M0_step_45 ?_
          refine V_bipush (v := 6) hc d_M0_step_46 (by decide) ?_
          refine V_icmp_ne (tgt := 74) hc d_M0_step_48 rfl (fun h => ?_) (fun h => ?_)
          · replace hw := hw.1 h
            refine V_iconst (v := 0) hc d_M0_step_74 (by decide) ?_
            refine V_istore hc [(4, .int 0), (0, .ref (a 0)), (1, .int v1), (2, .int v2), (3, .int v3)] d_M0_step_75 (by decide) rfl ?_
            refine V_iload hc d_M0_step_77 0 rfl ?_
            refine V_if_ne (tgt := 106) hc d_M0_step_79 rfl (fun h => absurd h (by decide)) (fun _ => ?_)
            refine V_aload_n hc d_M0_step_82 rfl 1 rfl ?_
            refine V_get (v := .ref (a 1)) hc uin_M0 0 eM_0 rfl 5 (by decide) k_590 rfl d_M0_step_83 ?_
            refine V_aload_n hc d_M0_step_86 rfl 1 rfl ?_
            refine V_get (v := .int (g_I z 10)) hc uin_M0 0 eM_0 rfl 20 (by decide) k_605 rfl d_M0_step_87 ?_
            obtain ⟨hi, hw⟩ := hw
            refine V_iald (x := g_A z 0 (g_I z 10 : Int32).toNatClampNeg) hc 1 0 eM_1 rfl hi rfl d_M0_step_90 ?_
            refine V_iconst (v := 3) hc d_M0_step_91 (by decide) ?_
            refine V_icmp_ne (tgt := 110) hc d_M0_step_92 rfl (fun h => ?_) (fun h => ?_)
            · replace hw := hw.1 h
              refine V_iconst (v := 0) hc d_M0_step_110 (by decide) ?_
              refine V_istore hc [(5, .int 0), (4, .int 0), (0, .ref (a 0)), (1, .int v1), (2, .int v2), (3, .int v3)] d_M0_step_111 (by decide) rfl ?_
              refine V_iload hc d_M0_step_113 0 rfl ?_
              refine V_if_eq (tgt := 130) hc d_M0_step_115 rfl (fun _ => ?_) (fun h => absurd h (by decide))
              refine V_iconst (v := 0) hc d_M0_step_130 (by decide) ?_
              refine V_istore_n hc [(3, .int 0), (5, .int 0), (4, .int 0), (0, .ref (a 0)), (1, .int v1), (2, .int v2)] d_M0_step_131 rfl (by decide) rfl ?_
              refine V_iload hc d_M0_step_132 1 rfl ?_
              refine V_if_eq (tgt := 149) hc d_M0_step_134 rfl (fun _ => ?_) (fun h => absurd h (by decide))
              refine V_iload hc d_M0_step_149 2 rfl ?_
              refine V_if_eq (tgt := 176) hc d_M0_step_151 rfl (fun _ => ?_) (fun h => absurd h (by decide))
              refine V_iload_n hc d_M0_step_176 rfl 0 rfl ?_
              refine V_if_ne (tgt := 193) hc d_M0_step_177 rfl (fun h => absurd h (by decide)) (fun _ => ?_)
              refine V_aload_n hc d_M0_step_180 rfl 3 rfl ?_
              refine V_dup hc d_M0_step_181 rfl ?_
              refine V_get (v := .int (g_I z 10)) hc uin_M0 0 eM_0 rfl 20 (by decide) k_605 rfl d_M0_step_182 ?_
              refine V_iconst (v := 1) hc d_M0_step_185 (by decide) ?_
              refine V_iadd hc d_M0_step_186 rfl ?_
              refine V_put (ty := .int) hc uin_M0 0 eM_0 rfl 20 (by decide) t_M0 t_M0_ok n_M0 k_605 rfl (by decide +kernel) rfl rfl (Nat.le_of_ble_eq_true rfl) iM_10 d_M0_step_187 ?_
              refine V_iinc (v := (v2 + 1)) hc [(2, .int (v2 + 1)), (3, .int 0), (5, .int 0), (4, .int 0), (0, .ref (a 0)), (1, .int v1)] d_M0_step_190 5 rfl (by rfl) (by decide) rfl ?_
              refine V_goto (tgt := 17) hc d_M0_step_193 rfl ?_
              refine V_sub [4, 5, 0, 1] [(0, .ref (a 0)), (1, .int v1), (2, .int (v2 + 1)), (3, .int 0)] rfl ?_
              exact ih v1 (v2 + 1) 0 (s_I z 10 (g_I z 10 + 1)) hw
            · replace hw := hw.2 h
              refine V_aload_n hc d_M0_step_95 rfl 1 rfl ?_
              refine V_get (v := .int (g_I z 10)) hc uin_M0 0 eM_0 rfl 20 (by decide) k_605 rfl d_M0_step_96 ?_
              refine V_aload_n hc d_M0_step_99 rfl 1 rfl ?_
              refine V_get (v := .int (g_I z 8)) hc uin_M0 0 eM_0 rfl 18 (by decide) k_603 rfl d_M0_step_100 ?_
              refine V_icmp_le (tgt := 110) hc d_M0_step_103 rfl (fun h => ?_) (fun h => ?_)
              · replace hw := hw.1 h
                refine V_iconst (v := 0) hc d_M0_step_110 (by decide) ?_
                refine V_istore hc [(5, .int 0), (4, .int 0), (0, .ref (a 0)), (1, .int v1), (2, .int v2), (3, .int v3)] d_M0_step_111 (by decide) rfl ?_
                refine V_iload hc d_M0_step_113 0 rfl ?_
                refine V_if_eq (tgt := 130) hc d_M0_step_115 rfl (fun _ => ?_) (fun h => absurd h (by decide))
                refine V_iconst (v := 0) hc d_M0_step_130 (by decide) ?_
                refine V_istore_n hc [(3, .int 0), (5, .int 0), (4, .int 0), (0, .ref (a 0)), (1, .int v1), (2, .int v2)] d_M0_step_131 rfl (by decide) rfl ?_
                refine V_iload hc d_M0_step_132 1 rfl ?_
                refine V_if_eq (tgt := 149) hc d_M0_step_134 rfl (fun _ => ?_) (fun h => absurd h (by decide))
                refine V_iload hc d_M0_step_149 2 rfl ?_
                refine V_if_eq (tgt := 176) hc d_M0_step_151 rfl (fun _ => ?_) (fun h => absurd h (by decide))
                refine V_iload_n hc d_M0_step_176 rfl 0 rfl ?_
                refine V_if_ne (tgt := 193) hc d_M0_step_177 rfl (fun h => absurd h (by decide)) (fun _ => ?_)
                refine V_aload_n hc d_M0_step_180 rfl 3 rfl ?_
                refine V_dup hc d_M0_step_181 rfl ?_
                refine V_get (v := .int (g_I z 10)) hc uin_M0 0 eM_0 rfl 20 (by decide) k_605 rfl d_M0_step_182 ?_
                refine V_iconst (v := 1) hc d_M0_step_185 (by decide) ?_
                refine V_iadd hc d_M0_step_186 rfl ?_
                refine V_put (ty := .int) hc uin_M0 0 eM_0 rfl 20 (by decide) t_M0 t_M0_ok n_M0 k_605 rfl (by decide +kernel) rfl rfl (Nat.le_of_ble_eq_true rfl) iM_10 d_M0_step_187 ?_
                refine V_iinc (v := (v2 + 1)) hc [(2, .int (v2 + 1)), (3, .int 0), (5, .int 0), (4, .int 0), (0, .ref (a 0)), (1, .int v1)] d_M0_step_190 5 rfl (by rfl) (by decide) rfl ?_
                refine V_goto (tgt := 17) hc d_M0_step_193 rfl ?_
                refine V_sub [4, 5, 0, 1] [(0, .ref (a 0)), (1, .int v1), (2, .int (v2 + 1)), (3, .int 0)] rfl ?_
                exact ih v1 (v2 + 1) 0 (s_I z 10 (g_I z 10 + 1)) hw
              · replace hw := hw.2 h
                refine V_iconst (v := 1) hc d_M0_step_106 (by decide) ?_
                refine V_goto (tgt := 111) hc d_M0_step_107 rfl ?_
                refine V_istore hc [(5, .int 1), (4, .int 0), (0, .ref (a 0)), (1, .int v1), (2, .int v2), (3, .int v3)] d_M0_step_111 (by decide) rfl ?_
                refine V_iload hc d_M0_step_113 0 rfl ?_
                refine V_if_eq (tgt := 130) hc d_M0_step_115 rfl (fun h => absurd h (by decide)) (fun _ => ?_)
                refine V_aload_n hc d_M0_step_118 rfl 2 rfl ?_
                refine V_get (v := .int (g_I z 16)) hc uin_M0 0 eM_0 rfl 26 (by decide) k_611 rfl d_M0_step_119 ?_
                refine V_iconst (v := 4) hc d_M0_step_122 (by decide) ?_
                refine V_icmp_lt (tgt := 130) hc d_M0_step_123 rfl (fun h => ?_) (fun h => ?_)
                · replace hw := hw.1 h
                  refine V_iconst (v := 0) hc d_M0_step_130 (by decide) ?_
                  refine V_istore_n hc [(3, .int 0), (5, .int 1), (4, .int 0), (0, .ref (a 0)), (1, .int v1), (2, .int v2)] d_M0_step_131 rfl (by decide) rfl ?_
                  refine V_iload hc d_M0_step_132 1 rfl ?_
                  refine V_if_eq (tgt := 149) hc d_M0_step_134 rfl (fun h => absurd h (by decide)) (fun _ => ?_)
                  refine V_iload_n hc d_M0_step_137 rfl 0 rfl ?_
                  refine V_if_ne (tgt := 149) hc d_M0_step_138 rfl (fun h => absurd h (by decide)) (fun _ => ?_)
                  refine V_aload_n hc d_M0_step_141 rfl 3 rfl ?_
                  refine V_aload_n hc d_M0_step_142 rfl 3 rfl ?_
                  refine V_get (v := .int (g_I z 10)) hc uin_M0 0 eM_0 rfl 20 (by decide) k_605 rfl d_M0_step_143 ?_
                  refine V_callVv (As := [.int (g_I z 10)]) (st := []) hc TS_good NS_nest (fun _ h => h) (c_M0_emit l K cA D a (g_I z 10) z) k_813 k_10 k_816 k_815 kp_M0_emit 0 eM_0 rfl q_M0_emit (by decide) (Nat.zero_le _) (Nat.zero_le _) rfl (Nat.le_of_ble_eq_true rfl) d_M0_step_146 hw (fun r1 u2 hw => ?_)
                  try dsimp only at hw
                  refine V_iload hc d_M0_step_149 2 rfl ?_
                  refine V_if_eq (tgt := 176) hc d_M0_step_151 rfl (fun _ => ?_) (fun h => absurd h (by decide))
                  refine V_iload_n hc d_M0_step_176 rfl 0 rfl ?_
                  refine V_if_ne (tgt := 193) hc d_M0_step_177 rfl (fun h => absurd h (by decide)) (fun _ => ?_)
                  refine V_aload_n hc d_M0_step_180 rfl 3 rfl ?_
                  refine V_dup hc d_M0_step_181 rfl ?_
                  refine V_get (v := .int (g_I u2 10)) hc uin_M0 0 eM_0 rfl 20 (by decide) k_605 rfl d_M0_step_182 ?_
                  refine V_iconst (v := 1) hc d_M0_step_185 (by decide) ?_
                  refine V_iadd hc d_M0_step_186 rfl ?_
                  refine V_put (ty := .int) hc uin_M0 0 eM_0 rfl 20 (by decide) t_M0 t_M0_ok n_M0 k_605 rfl (by decide +kernel) rfl rfl (Nat.le_of_ble_eq_true rfl) iM_10 d_M0_step_187 ?_
                  refine V_iinc (v := (v2 + 1)) hc [(2, .int (v2 + 1)), (3, .int 0), (5, .int 1), (4, .int 0), (0, .ref (a 0)), (1, .int v1)] d_M0_step_190 5 rfl (by rfl) (by decide) rfl ?_
                  refine V_goto (tgt := 17) hc d_M0_step_193 rfl ?_
                  refine V_sub [4, 5, 0, 1] [(0, .ref (a 0)), (1, .int v1), (2, .int (v2 + 1)), (3, .int 0)] rfl ?_
                  exact ih v1 (v2 + 1) 0 (s_I u2 10 (g_I u2 10 + 1)) hw
                · replace hw := hw.2 h
                  refine V_iconst (v := 1) hc d_M0_step_126 (by decide) ?_
                  refine V_goto (tgt := 131) hc d_M0_step_127 rfl ?_
                  refine V_istore_n hc [(3, .int 1), (5, .int 1), (4, .int 0), (0, .ref (a 0)), (1, .int v1), (2, .int v2)] d_M0_step_131 rfl (by decide) rfl ?_
                  refine V_iload hc d_M0_step_132 1 rfl ?_
                  refine V_if_eq (tgt := 149) hc d_M0_step_134 rfl (fun h => absurd h (by decide)) (fun _ => ?_)
                  refine V_iload_n hc d_M0_step_137 rfl 0 rfl ?_
                  refine V_if_ne (tgt := 149) hc d_M0_step_138 rfl (fun _ => ?_) (fun h => absurd h (by decide))
                  refine V_iload hc d_M0_step_149 2 rfl ?_
                  refine V_if_eq (tgt := 176) hc d_M0_step_151 rfl (fun _ => ?_) (fun h => absurd h (by decide))
                  refine V_iload_n hc d_M0_step_176 rfl 0 rfl ?_
                  refine V_if_ne (tgt := 193) hc d_M0_step_177 rfl (fun _ => ?_) (fun h => absurd h (by decide))
                  refine V_goto (tgt := 17) hc d_M0_step_193 rfl ?_
                  refine V_sub [3, 4, 5, 0] [(0, .ref (a 0)), (1, .int v1), (2, .int v2), (3, .int 1)] rfl ?_
                  exact ih v1 v2 1 z hw
          · replace hw := hw.2 h
            refine V_aload_n hc d_M0_step_51 rfl 0 rfl ?_
            refine V_get (v := .int (g_I z 12)) hc uin_M0 0 eM_0 rfl 22 (by decide) k_607 rfl d_M0_step_52 ?_
            refine V_iconst (v := 3) hc d_M0_step_55 (by decide) ?_
            refine V_icmp_ne (tgt := 74) hc d_M0_step_56 rfl (fun h => ?_) (fun h => ?_)
            · replace hw := hw.1 h
              refine V_iconst (v := 0) hc d_M0_step_74 (by decide) ?_
              refine V_istore hc [(4, .int 0), (0, .ref (a 0)), (1, .int v1), (2, .int v2), (3, .int v3)] d_M0_step_75 (by decide) rfl ?_
              refine V_iload hc d_M0_step_77 0 rfl ?_
              refine V_if_ne (tgt := 106) hc d_M0_step_79 rfl (fun h => absurd h (by decide)) (fun _ => ?_)
              refine V_aload_n hc d_M0_step_82 rfl 1 rfl ?_
              refine V_get (v := .ref (a 1)) hc uin_M0 0 eM_0 rfl 5 (by decide) k_590 rfl d_M0_step_83 ?_
              refine V_aload_n hc d_M0_step_86 rfl 1 rfl ?_
              refine V_get (v := .int (g_I z 10)) hc uin_M0 0 eM_0 rfl 20 (by decide) k_605 rfl d_M0_step_87 ?_
              obtain ⟨hi, hw⟩ := hw
              refine V_iald (x := g_A z 0 (g_I z 10 : Int32).toNatClampNeg) hc 1 0 eM_1 rfl hi rfl d_M0_step_90 ?_
              refine V_iconst (v := 3) hc d_M0_step_91 (by decide) ?_
              refine V_icmp_ne (tgt := 110) hc d_M0_step_92 rfl (fun h => ?_) (fun h => ?_)
              · replace hw := hw.1 h
                refine V_iconst (v := 0) hc d_M0_step_110 (by decide) ?_
                refine V_istore hc [(5, .int 0), (4, .int 0), (0, .ref (a 0)), (1, .int v1), (2, .int v2), (3, .int v3)] d_M0_step_111 (by decide) rfl ?_
                refine V_iload hc d_M0_step_113 0 rfl ?_
                refine V_if_eq (tgt := 130) hc d_M0_step_115 rfl (fun _ => ?_) (fun h => absurd h (by decide))
                refine V_iconst (v := 0) hc d_M0_step_130 (by decide) ?_
                refine V_istore_n hc [(3, .int 0), (5, .int 0), (4, .int 0), (0, .ref (a 0)), (1, .int v1), (2, .int v2)] d_M0_step_131 rfl (by decide) rfl ?_
                refine V_iload hc d_M0_step_132 1 rfl ?_
                refine V_if_eq (tgt := 149) hc d_M0_step_134 rfl (fun _ => ?_) (fun h => absurd h (by decide))
                refine V_iload hc d_M0_step_149 2 rfl ?_
                refine V_if_eq (tgt := 176) hc d_M0_step_151 rfl (fun _ => ?_) (fun h => absurd h (by decide))
                refine V_iload_n hc d_M0_step_176 rfl 0 rfl ?_
                refine V_if_ne (tgt := 193) hc d_M0_step_177 rfl (fun h => absurd h (by decide)) (fun _ => ?_)
                refine V_aload_n hc d_M0_step_180 rfl 3 rfl ?_
                refine V_dup hc d_M0_step_181 rfl ?_
                refine V_get (v := .int (g_I z 10)) hc uin_M0 0 eM_0 rfl 20 (by decide) k_605 rfl d_M0_step_182 ?_
                refine V_iconst (v := 1) hc d_M0_step_185 (by decide) ?_
                refine V_iadd hc d_M0_step_186 rfl ?_
                refine V_put (ty := .int) hc uin_M0 0 eM_0 rfl 20 (by decide) t_M0 t_M0_ok n_M0 k_605 rfl (by decide +kernel) rfl rfl (Nat.le_of_ble_eq_true rfl) iM_10 d_M0_step_187 ?_
                refine V_iinc (v := (v2 + 1)) hc [(2, .int (v2 + 1)), (3, .int 0), (5, .int 0), (4, .int 0), (0, .ref (a 0)), (1, .int v1)] d_M0_step_190 5 rfl (by rfl) (by decide) rfl ?_
                refine V_goto (tgt := 17) hc d_M0_step_193 rfl ?_
                refine V_sub [4, 5, 0, 1] [(0, .ref (a 0)), (1, .int v1), (2, .int (v2 + 1)), (3, .int 0)] rfl ?_
                exact ih v1 (v2 + 1) 0 (s_I z 10 (g_I z 10 + 1)) hw
              · replace hw := hw.2 h
                refine V_aload_n hc d_M0_step_95 rfl 1 rfl ?_
                refine V_get (v := .int (g_I z 10)) hc uin_M0 0 eM_0 rfl 20 (by decide) k_605 rfl d_M0_step_96 ?_
                refine V_aload_n hc d_M0_step_99 rfl 1 rfl ?_
                refine V_get (v := .int (g_I z 8)) hc uin_M0 0 eM_0 rfl 18 (by decide) k_603 rfl d_M0_step_100 ?_
                refine V_icmp_le (tgt := 110) hc d_M0_step_103 rfl (fun h => ?_) (fun h => ?_)
                · replace hw := hw.1 h
                  refine V_iconst (v := 0) hc d_M0_step_110 (by decide) ?_
                  refine V_istore hc [(5, .int 0), (4, .int 0), (0, .ref (a 0)), (1, .int v1), (2, .int v2), (3, .int v3)] d_M0_step_111 (by decide) rfl ?_
                  refine V_iload hc d_M0_step_113 0 rfl ?_
                  refine V_if_eq (tgt := 130) hc d_M0_step_115 rfl (fun _ => ?_) (fun h => absurd h (by decide))
                  refine V_iconst (v := 0) hc d_M0_step_130 (by decide) ?_
                  refine V_istore_n hc [(3, .int 0), (5, .int 0), (4, .int 0), (0, .ref (a 0)), (1, .int v1), (2, .int v2)] d_M0_step_131 rfl (by decide) rfl ?_
                  refine V_iload hc d_M0_step_132 1 rfl ?_
                  refine V_if_eq (tgt := 149) hc d_M0_step_134 rfl (fun _ => ?_) (fun h => absurd h (by decide))
                  refine V_iload hc d_M0_step_149 2 rfl ?_
                  refine V_if_eq (tgt := 176) hc d_M0_step_151 rfl (fun _ => ?_) (fun h => absurd h (by decide))
                  refine V_iload_n hc d_M0_step_176 rfl 0 rfl ?_
                  refine V_if_ne (tgt := 193) hc d_M0_step_177 rfl (fun h => absurd h (by decide)) (fun _ => ?_)
                  refine V_aload_n hc d_M0_step_180 rfl 3 rfl ?_
                  refine V_dup hc d_M0_step_181 rfl ?_
                  refine V_get (v := .int (g_I z 10)) hc uin_M0 0 eM_0 rfl 20 (by decide) k_605 rfl d_M0_step_182 ?_
                  refine V_iconst (v := 1) hc d_M0_step_185 (by decide) ?_
                  refine V_iadd hc d_M0_step_186 rfl ?_
                  refine V_put (ty := .int) hc uin_M0 0 eM_0 rfl 20 (by decide) t_M0 t_M0_ok n_M0 k_605 rfl (by decide +kernel) rfl rfl (Nat.le_of_ble_eq_true rfl) iM_10 d_M0_step_187 ?_
                  refine V_iinc (v := (v2 + 1)) hc [(2, .int (v2 + 1)), (3, .int 0), (5, .int 0), (4, .int 0), (0, .ref (a 0)), (1, .int v1)] d_M0_step_190 5 rfl (by rfl) (by decide) rfl ?_
                  refine V_goto (tgt := 17) hc d_M0_step_193 rfl ?_
                  refine V_sub [4, 5, 0, 1] [(0, .ref (a 0)), (1, .int v1), (2, .int (v2 + 1)), (3, .int 0)] rfl ?_
                  exact ih v1 (v2 + 1) 0 (s_I z 10 (g_I z 10 + 1)) hw
                · replace hw := hw.2 h
                  refine V_iconst (v := 1) hc d_M0_step_106 (by decide) ?_
                  refine V_goto (tgt := 111) hc d_M0_step_107 rfl ?_
                  refine V_istore hc [(5, .int 1), (4, .int 0), (0, .ref (a 0)), (1, .int v1), (2, .int v2), (3, .int v3)] d_M0_step_111 (by decide) rfl ?_
                  refine V_iload hc d_M0_step_113 0 rfl ?_
                  refine V_if_eq (tgt := 130) hc d_M0_step_115 rfl (fun h => absurd h (by decide)) (fun _ => ?_)
                  refine V_aload_n hc d_M0_step_118 rfl 2 rfl ?_
                  refine V_get (v := .int (g_I z 16)) hc uin_M0 0 eM_0 rfl 26 (by decide) k_611 rfl d_M0_step_119 ?_
                  refine V_iconst (v := 4) hc d_M0_step_122 (by decide) ?_
                  refine V_icmp_lt (tgt := 130) hc d_M0_step_123 rfl (fun h => ?_) (fun h => ?_)
                  · replace hw := hw.1 h
                    refine V_iconst (v := 0) hc d_M0_step_130 (by decide) ?_
                    refine V_istore_n hc [(3, .int 0), (5, .int 1), (4, .int 0), (0, .ref (a 0)), (1, .int v1), (2, .int v2)] d_M0_step_131 rfl (by decide) rfl ?_
                    refine V_iload hc d_M0_step_132 1 rfl ?_
                    refine V_if_eq (tgt := 149) hc d_M0_step_134 rfl (fun h => absurd h (by decide)) (fun _ => ?_)
                    refine V_iload_n hc d_M0_step_137 rfl 0 rfl ?_
                    refine V_if_ne (tgt := 149) hc d_M0_step_138 rfl (fun h => absurd h (by decide)) (fun _ => ?_)
                    refine V_aload_n hc d_M0_step_141 rfl 3 rfl ?_
                    refine V_aload_n hc d_M0_step_142 rfl 3 rfl ?_
                    refine V_get (v := .int (g_I z 10)) hc uin_M0 0 eM_0 rfl 20 (by decide) k_605 rfl d_M0_step_143 ?_
                    refine V_callVv (As := [.int (g_I z 10)]) (st := []) hc TS_good NS_nest (fun _ h => h) (c_M0_emit l K cA D a (g_I z 10) z) k_813 k_10 k_816 k_815 kp_M0_emit 0 eM_0 rfl q_M0_emit (by decide) (Nat.zero_le _) (Nat.zero_le _) rfl (Nat.le_of_ble_eq_true rfl) d_M0_step_146 hw (fun r3 u4 hw => ?_)
                    try dsimp only at hw
                    refine V_iload hc d_M0_step_149 2 rfl ?_
                    refine V_if_eq (tgt := 176) hc d_M0_step_151 rfl (fun _ => ?_) (fun h => absurd h (by decide))
                    refine V_iload_n hc d_M0_step_176 rfl 0 rfl ?_
                    refine V_if_ne (tgt := 193) hc d_M0_step_177 rfl (fun h => absurd h (by decide)) (fun _ => ?_)
                    refine V_aload_n hc d_M0_step_180 rfl 3 rfl ?_
                    refine V_dup hc d_M0_step_181 rfl ?_
                    refine V_get (v := .int (g_I u4 10)) hc uin_M0 0 eM_0 rfl 20 (by decide) k_605 rfl d_M0_step_182 ?_
                    refine V_iconst (v := 1) hc d_M0_step_185 (by decide) ?_
                    refine V_iadd hc d_M0_step_186 rfl ?_
                    refine V_put (ty := .int) hc uin_M0 0 eM_0 rfl 20 (by decide) t_M0 t_M0_ok n_M0 k_605 rfl (by decide +kernel) rfl rfl (Nat.le_of_ble_eq_true rfl) iM_10 d_M0_step_187 ?_
                    refine V_iinc (v := (v2 + 1)) hc [(2, .int (v2 + 1)), (3, .int 0), (5, .int 1), (4, .int 0), (0, .ref (a 0)), (1, .int v1)] d_M0_step_190 5 rfl (by rfl) (by decide) rfl ?_
                    refine V_goto (tgt := 17) hc d_M0_step_193 rfl ?_
                    refine V_sub [4, 5, 0, 1] [(0, .ref (a 0)), (1, .int v1), (2, .int (v2 + 1)), (3, .int 0)] rfl ?_
                    exact ih v1 (v2 + 1) 0 (s_I u4 10 (g_I u4 10 + 1)) hw
                  · replace hw := hw.2 h
                    refine V_iconst (v := 1) hc d_M0_step_126 (by decide) ?_
                    refine V_goto (tgt := 131) hc d_M0_step_127 rfl ?_
                    refine V_istore_n hc [(3, .int 1), (5, .int 1), (4, .int 0), (0, .ref (a 0)), (1, .int v1), (2, .int v2)] d_M0_step_131 rfl (by decide) rfl ?_
                    refine V_iload hc d_M0_step_132 1 rfl ?_
                    refine V_if_eq (tgt := 149) hc d_M0_step_134 rfl (fun h => absurd h (by decide)) (fun _ => ?_)
                    refine V_iload_n hc d_M0_step_137 rfl 0 rfl ?_
                    refine V_if_ne (tgt := 149) hc d_M0_step_138 rfl (fun _ => ?_) (fun h => absurd h (by decide))
                    refine V_iload hc d_M0_step_149 2 rfl ?_
                    refine V_if_eq (tgt := 176) hc d_M0_step_151 rfl (fun _ => ?_) (fun h => absurd h (by decide))
                    refine V_iload_n hc d_M0_step_176 rfl 0 rfl ?_
                    refine V_if_ne (tgt := 193) hc d_M0_step_177 rfl (fun _ => ?_) (fun h => absurd h (by decide))
                    refine V_goto (tgt := 17) hc d_M0_step_193 rfl ?_
                    refine V_sub [3, 4, 5, 0] [(0, .ref (a 0)), (1, .int v1), (2, .int v2), (3, .int 1)] rfl ?_
                    exact ih v1 v2 1 z hw
            · replace hw := hw.2 h
              refine V_aload_n hc d_M0_step_59 rfl 0 rfl ?_
              refine V_get (v := .int (g_I z 10)) hc uin_M0 0 eM_0 rfl 20 (by decide) k_605 rfl d_M0_step_60 ?_
              refine V_aload_n hc d_M0_step_63 rfl 0 rfl ?_
              refine V_get (v := .int (g_I z 15)) hc uin_M0 0 eM_0 rfl 25 (by decide) k_610 rfl d_M0_step_64 ?_
              refine V_icmp_ne (tgt := 74) hc d_M0_step_67 rfl (fun h => ?_) (fun h => ?_)
              · replace hw := hw.1 h
                refine V_iconst (v := 0) hc d_M0_step_74 (by decide) ?_
                refine V_istore hc [(4, .int 0), (0, .ref (a 0)), (1, .int v1), (2, .int v2), (3, .int v3)] d_M0_step_75 (by decide) rfl ?_
                refine V_iload hc d_M0_step_77 0 rfl ?_
                refine V_if_ne (tgt := 106) hc d_M0_step_79 rfl (fun h => absurd h (by decide)) (fun _ => ?_)
                refine V_aload_n hc d_M0_step_82 rfl 1 rfl ?_
                refine V_get (v := .ref (a 1)) hc uin_M0 0 eM_0 rfl 5 (by decide) k_590 rfl d_M0_step_83 ?_
                refine V_aload_n hc d_M0_step_86 rfl 1 rfl ?_
                refine V_get (v := .int (g_I z 10)) hc uin_M0 0 eM_0 rfl 20 (by decide) k_605 rfl d_M0_step_87 ?_
                obtain ⟨hi, hw⟩ := hw
                refine V_iald (x := g_A z 0 (g_I z 10 : Int32).toNatClampNeg) hc 1 0 eM_1 rfl hi rfl d_M0_step_90 ?_
                refine V_iconst (v := 3) hc d_M0_step_91 (by decide) ?_
                refine V_icmp_ne (tgt := 110) hc d_M0_step_92 rfl (fun h => ?_) (fun h => ?_)
                · replace hw := hw.1 h
                  refine V_iconst (v := 0) hc d_M0_step_110 (by decide) ?_
                  refine V_istore hc [(5, .int 0), (4, .int 0), (0, .ref (a 0)), (1, .int v1), (2, .int v2), (3, .int v3)] d_M0_step_111 (by decide) rfl ?_
                  refine V_iload hc d_M0_step_113 0 rfl ?_
                  refine V_if_eq (tgt := 130) hc d_M0_step_115 rfl (fun _ => ?_) (fun h => absurd h (by decide))
                  refine V_iconst (v := 0) hc d_M0_step_130 (by decide) ?_
                  refine V_istore_n hc [(3, .int 0), (5, .int 0), (4, .int 0), (0, .ref (a 0)), (1, .int v1), (2, .int v2)] d_M0_step_131 rfl (by decide) rfl ?_
                  refine V_iload hc d_M0_step_132 1 rfl ?_
                  refine V_if_eq (tgt := 149) hc d_M0_step_134 rfl (fun _ => ?_) (fun h => absurd h (by decide))
                  refine V_iload hc d_M0_step_149 2 rfl ?_
                  refine V_if_eq (tgt := 176) hc d_M0_step_151 rfl (fun _ => ?_) (fun h => absurd h (by decide))
                  refine V_iload_n hc d_M0_step_176 rfl 0 rfl ?_
                  refine V_if_ne (tgt := 193) hc d_M0_step_177 rfl (fun h => absurd h (by decide)) (fun _ => ?_)
                  refine V_aload_n hc d_M0_step_180 rfl 3 rfl ?_
                  refine V_dup hc d_M0_step_181 rfl ?_
                  refine V_get (v := .int (g_I z 10)) hc uin_M0 0 eM_0 rfl 20 (by decide) k_605 rfl d_M0_step_182 ?_
                  refine V_iconst (v := 1) hc d_M0_step_185 (by decide) ?_
                  refine V_iadd hc d_M0_step_186 rfl ?_
                  refine V_put (ty := .int) hc uin_M0 0 eM_0 rfl 20 (by decide) t_M0 t_M0_ok n_M0 k_605 rfl (by decide +kernel) rfl rfl (Nat.le_of_ble_eq_true rfl) iM_10 d_M0_step_187 ?_
                  refine V_iinc (v := (v2 + 1)) hc [(2, .int (v2 + 1)), (3, .int 0), (5, .int 0), (4, .int 0), (0, .ref (a 0)), (1, .int v1)] d_M0_step_190 5 rfl (by rfl) (by decide) rfl ?_
                  refine V_goto (tgt := 17) hc d_M0_step_193 rfl ?_
                  refine V_sub [4, 5, 0, 1] [(0, .ref (a 0)), (1, .int v1), (2, .int (v2 + 1)), (3, .int 0)] rfl ?_
                  exact ih v1 (v2 + 1) 0 (s_I z 10 (g_I z 10 + 1)) hw
                · replace hw := hw.2 h
                  refine V_aload_n hc d_M0_step_95 rfl 1 rfl ?_
                  refine V_get (v := .int (g_I z 10)) hc uin_M0 0 eM_0 rfl 20 (by decide) k_605 rfl d_M0_step_96 ?_
                  refine V_aload_n hc d_M0_step_99 rfl 1 rfl ?_
                  refine V_get (v := .int (g_I z 8)) hc uin_M0 0 eM_0 rfl 18 (by decide) k_603 rfl d_M0_step_100 ?_
                  refine V_icmp_le (tgt := 110) hc d_M0_step_103 rfl (fun h => ?_) (fun h => ?_)
                  · replace hw := hw.1 h
                    refine V_iconst (v := 0) hc d_M0_step_110 (by decide) ?_
                    refine V_istore hc [(5, .int 0), (4, .int 0), (0, .ref (a 0)), (1, .int v1), (2, .int v2), (3, .int v3)] d_M0_step_111 (by decide) rfl ?_
                    refine V_iload hc d_M0_step_113 0 rfl ?_
                    refine V_if_eq (tgt := 130) hc d_M0_step_115 rfl (fun _ => ?_) (fun h => absurd h (by decide))
                    refine V_iconst (v := 0) hc d_M0_step_130 (by decide) ?_
                    refine V_istore_n hc [(3, .int 0), (5, .int 0), (4, .int 0), (0, .ref (a 0)), (1, .int v1), (2, .int v2)] d_M0_step_131 rfl (by decide) rfl ?_
                    refine V_iload hc d_M0_step_132 1 rfl ?_
                    refine V_if_eq (tgt := 149) hc d_M0_step_134 rfl (fun _ => ?_) (fun h => absurd h (by decide))
                    refine V_iload hc d_M0_step_149 2 rfl ?_
                    refine V_if_eq (tgt := 176) hc d_M0_step_151 rfl (fun _ => ?_) (fun h => absurd h (by decide))
                    refine V_iload_n hc d_M0_step_176 rfl 0 rfl ?_
                    refine V_if_ne (tgt := 193) hc d_M0_step_177 rfl (fun h => absurd h (by decide)) (fun _ => ?_)
                    refine V_aload_n hc d_M0_step_180 rfl 3 rfl ?_
                    refine V_dup hc d_M0_step_181 rfl ?_
                    refine V_get (v := .int (g_I z 10)) hc uin_M0 0 eM_0 rfl 20 (by decide) k_605 rfl d_M0_step_182 ?_
                    refine V_iconst (v := 1) hc d_M0_step_185 (by decide) ?_
                    refine V_iadd hc d_M0_step_186 rfl ?_
                    refine V_put (ty := .int) hc uin_M0 0 eM_0 rfl 20 (by decide) t_M0 t_M0_ok n_M0 k_605 rfl (by decide +kernel) rfl rfl (Nat.le_of_ble_eq_true rfl) iM_10 d_M0_step_187 ?_
                    refine V_iinc (v := (v2 + 1)) hc [(2, .int (v2 + 1)), (3, .int 0), (5, .int 0), (4, .int 0), (0, .ref (a 0)), (1, .int v1)] d_M0_step_190 5 rfl (by rfl) (by decide) rfl ?_
                    refine V_goto (tgt := 17) hc d_M0_step_193 rfl ?_
                    refine V_sub [4, 5, 0, 1] [(0, .ref (a 0)), (1, .int v1), (2, .int (v2 + 1)), (3, .int 0)] rfl ?_
                    exact ih v1 (v2 + 1) 0 (s_I z 10 (g_I z 10 + 1)) hw
                  · replace hw := hw.2 h
                    refine V_iconst (v := 1) hc d_M0_step_106 (by decide) ?_
                    refine V_goto (tgt := 111) hc d_M0_step_107 rfl ?_
                    refine V_istore hc [(5, .int 1), (4, .int 0), (0, .ref (a 0)), (1, .int v1), (2, .int v2), (3, .int v3)] d_M0_step_111 (by decide) rfl ?_
                    refine V_iload hc d_M0_step_113 0 rfl ?_
                    refine V_if_eq (tgt := 130) hc d_M0_step_115 rfl (fun h => absurd h (by decide)) (fun _ => ?_)
                    refine V_aload_n hc d_M0_step_118 rfl 2 rfl ?_
                    refine V_get (v := .int (g_I z 16)) hc uin_M0 0 eM_0 rfl 26 (by decide) k_611 rfl d_M0_step_119 ?_
                    refine V_iconst (v := 4) hc d_M0_step_122 (by decide) ?_
                    refine V_icmp_lt (tgt := 130) hc d_M0_step_123 rfl (fun h => ?_) (fun h => ?_)
                    · replace hw := hw.1 h
                      refine V_iconst (v := 0) hc d_M0_step_130 (by decide) ?_
                      refine V_istore_n hc [(3, .int 0), (5, .int 1), (4, .int 0), (0, .ref (a 0)), (1, .int v1), (2, .int v2)] d_M0_step_131 rfl (by decide) rfl ?_
                      refine V_iload hc d_M0_step_132 1 rfl ?_
                      refine V_if_eq (tgt := 149) hc d_M0_step_134 rfl (fun h => absurd h (by decide)) (fun _ => ?_)
                      refine V_iload_n hc d_M0_step_137 rfl 0 rfl ?_
                      refine V_if_ne (tgt := 149) hc d_M0_step_138 rfl (fun h => absurd h (by decide)) (fun _ => ?_)
                      refine V_aload_n hc d_M0_step_141 rfl 3 rfl ?_
                      refine V_aload_n hc d_M0_step_142 rfl 3 rfl ?_
                      refine V_get (v := .int (g_I z 10)) hc uin_M0 0 eM_0 rfl 20 (by decide) k_605 rfl d_M0_step_143 ?_
                      refine V_callVv (As := [.int (g_I z 10)]) (st := []) hc TS_good NS_nest (fun _ h => h) (c_M0_emit l K cA D a (g_I z 10) z) k_813 k_10 k_816 k_815 kp_M0_emit 0 eM_0 rfl q_M0_emit (by decide) (Nat.zero_le _) (Nat.zero_le _) rfl (Nat.le_of_ble_eq_true rfl) d_M0_step_146 hw (fun r5 u6 hw => ?_)
                      try dsimp only at hw
                      refine V_iload hc d_M0_step_149 2 rfl ?_
                      refine V_if_eq (tgt := 176) hc d_M0_step_151 rfl (fun _ => ?_) (fun h => absurd h (by decide))
                      refine V_iload_n hc d_M0_step_176 rfl 0 rfl ?_
                      refine V_if_ne (tgt := 193) hc d_M0_step_177 rfl (fun h => absurd h (by decide)) (fun _ => ?_)
                      refine V_aload_n hc d_M0_step_180 rfl 3 rfl ?_
                      refine V_dup hc d_M0_step_181 rfl ?_
                      refine V_get (v := .int (g_I u6 10)) hc uin_M0 0 eM_0 rfl 20 (by decide) k_605 rfl d_M0_step_182 ?_
                      refine V_iconst (v := 1) hc d_M0_step_185 (by decide) ?_
                      refine V_iadd hc d_M0_step_186 rfl ?_
                      refine V_put (ty := .int) hc uin_M0 0 eM_0 rfl 20 (by decide) t_M0 t_M0_ok n_M0 k_605 rfl (by decide +kernel) rfl rfl (Nat.le_of_ble_eq_true rfl) iM_10 d_M0_step_187 ?_
                      refine V_iinc (v := (v2 + 1)) hc [(2, .int (v2 + 1)), (3, .int 0), (5, .int 1), (4, .int 0), (0, .ref (a 0)), (1, .int v1)] d_M0_step_190 5 rfl (by rfl) (by decide) rfl ?_
                      refine V_goto (tgt := 17) hc d_M0_step_193 rfl ?_
                      refine V_sub [4, 5, 0, 1] [(0, .ref (a 0)), (1, .int v1), (2, .int (v2 + 1)), (3, .int 0)] rfl ?_
                      exact ih v1 (v2 + 1) 0 (s_I u6 10 (g_I u6 10 + 1)) hw
                    · replace hw := hw.2 h
                      refine V_iconst (v := 1) hc d_M0_step_126 (by decide) ?_
                      refine V_goto (tgt := 131) hc d_M0_step_127 rfl ?_
                      refine V_istore_n hc [(3, .int 1), (5, .int 1), (4, .int 0), (0, .ref (a 0)), (1, .int v1), (2, .int v2)] d_M0_step_131 rfl (by decide) rfl ?_
                      refine V_iload hc d_M0_step_132 1 rfl ?_
                      refine V_if_eq (tgt := 149) hc d_M0_step_134 rfl (fun h => absurd h (by decide)) (fun _ => ?_)
                      refine V_iload_n hc d_M0_step_137 rfl 0 rfl ?_
                      refine V_if_ne (tgt := 149) hc d_M0_step_138 rfl (fun _ => ?_) (fun h => absurd h (by decide))
                      refine V_iload hc d_M0_step_149 2 rfl ?_
                      refine V_if_eq (tgt := 176) hc d_M0_step_151 rfl (fun _ => ?_) (fun h => absurd h (by decide))
                      refine V_iload_n hc d_M0_step_176 rfl 0 rfl ?_
                      refine V_if_ne (tgt := 193) hc d_M0_step_177 rfl (fun _ => ?_) (fun h => absurd h (by decide))
                      refine V_goto (tgt := 17) hc d_M0_step_193 rfl ?_
                      refine V_sub [3, 4, 5, 0] [(0, .ref (a 0)), (1, .int v1), (2, .int v2), (3, .int 1)] rfl ?_
                      exact ih v1 v2 1 z hw
              · replace hw := hw.2 h
                refine V_iconst (v := 1) hc d_M0_step_70 (by decide) ?_
                refine V_goto (tgt := 75) hc d_M0_step_71 rfl ?_
                refine V_istore hc [(4, .int 1), (0, .ref (a 0)), (1, .int v1), (2, .int v2), (3, .int v3)] d_M0_step_75 (by decide) rfl ?_
                refine V_iload hc d_M0_step_77 0 rfl ?_
                refine V_if_ne (tgt := 106) hc d_M0_step_79 rfl (fun _ => ?_) (fun h => absurd h (by decide))
                refine V_iconst (v := 1) hc d_M0_step_106 (by decide) ?_
                refine V_goto (tgt := 111) hc d_M0_step_107 rfl ?_
                refine V_istore hc [(5, .int 1), (4, .int 1), (0, .ref (a 0)), (1, .int v1), (2, .int v2), (3, .int v3)] d_M0_step_111 (by decide) rfl ?_
                refine V_iload hc d_M0_step_113 0 rfl ?_
                refine V_if_eq (tgt := 130) hc d_M0_step_115 rfl (fun h => absurd h (by decide)) (fun _ => ?_)
                refine V_aload_n hc d_M0_step_118 rfl 2 rfl ?_
                refine V_get (v := .int (g_I z 16)) hc uin_M0 0 eM_0 rfl 26 (by decide) k_611 rfl d_M0_step_119 ?_
                refine V_iconst (v := 4) hc d_M0_step_122 (by decide) ?_
                refine V_icmp_lt (tgt := 130) hc d_M0_step_123 rfl (fun h => ?_) (fun h => ?_)
                · replace hw := hw.1 h
                  refine V_iconst (v := 0) hc d_M0_step_130 (by decide) ?_
                  refine V_istore_n hc [(3, .int 0), (5, .int 1), (4, .int 1), (0, .ref (a 0)), (1, .int v1), (2, .int v2)] d_M0_step_131 rfl (by decide) rfl ?_
                  refine V_iload hc d_M0_step_132 1 rfl ?_
                  refine V_if_eq (tgt := 149) hc d_M0_step_134 rfl (fun h => absurd h (by decide)) (fun _ => ?_)
                  refine V_iload_n hc d_M0_step_137 rfl 0 rfl ?_
                  refine V_if_ne (tgt := 149) hc d_M0_step_138 rfl (fun h => absurd h (by decide)) (fun _ => ?_)
                  refine V_aload_n hc d_M0_step_141 rfl 3 rfl ?_
                  refine V_aload_n hc d_M0_step_142 rfl 3 rfl ?_
                  refine V_get (v := .int (g_I z 10)) hc uin_M0 0 eM_0 rfl 20 (by decide) k_605 rfl d_M0_step_143 ?_
                  refine V_callVv (As := [.int (g_I z 10)]) (st := []) hc TS_good NS_nest (fun _ h => h) (c_M0_emit l K cA D a (g_I z 10) z) k_813 k_10 k_816 k_815 kp_M0_emit 0 eM_0 rfl q_M0_emit (by decide) (Nat.zero_le _) (Nat.zero_le _) rfl (Nat.le_of_ble_eq_true rfl) d_M0_step_146 hw (fun r7 u8 hw => ?_)
                  try dsimp only at hw
                  refine V_iload hc d_M0_step_149 2 rfl ?_
                  refine V_if_eq (tgt := 176) hc d_M0_step_151 rfl (fun h => absurd h (by decide)) (fun _ => ?_)
                  refine V_iload_n hc d_M0_step_154 rfl 0 rfl ?_
                  refine V_if_ne (tgt := 176) hc d_M0_step_155 rfl (fun h => absurd h (by decide)) (fun _ => ?_)
                  refine V_aload_n hc d_M0_step_158 rfl 3 rfl ?_
                  refine V_iconst (v := 0) hc d_M0_step_159 (by decide) ?_
                  refine V_put (ty := .int) hc uin_M0 0 eM_0 rfl 22 (by decide) t_M0 t_M0_ok n_M0 k_607 rfl (by decide +kernel) rfl rfl (Nat.le_of_ble_eq_true rfl) iM_12 d_M0_step_160 ?_
                  refine V_aload_n hc d_M0_step_163 rfl 3 rfl ?_
                  refine V_dup hc d_M0_step_164 rfl ?_
                  refine V_get (v := .int (g_I u8 11)) hc uin_M0 0 eM_0 rfl 21 (by decide) k_606 rfl d_M0_step_165 ?_
                  refine V_aload_n hc d_M0_step_168 rfl 3 rfl ?_
                  refine V_get (v := .int (g_I u8 1)) hc uin_M0 0 eM_0 rfl 1 (by decide) k_586 rfl d_M0_step_169 ?_
                  refine V_iadd hc d_M0_step_172 rfl ?_
                  refine V_put (ty := .int) hc uin_M0 0 eM_0 rfl 21 (by decide) t_M0 t_M0_ok n_M0 k_606 rfl (by decide +kernel) rfl rfl (Nat.le_of_ble_eq_true rfl) iM_11 d_M0_step_173 ?_
                  refine V_iload_n hc d_M0_step_176 rfl 0 rfl ?_
                  refine V_if_ne (tgt := 193) hc d_M0_step_177 rfl (fun h => absurd h (by decide)) (fun _ => ?_)
                  refine V_aload_n hc d_M0_step_180 rfl 3 rfl ?_
                  refine V_dup hc d_M0_step_181 rfl ?_
                  refine V_get (v := .int (g_I u8 10)) hc uin_M0 0 eM_0 rfl 20 (by decide) k_605 rfl d_M0_step_182 ?_
                  refine V_iconst (v := 1) hc d_M0_step_185 (by decide) ?_
                  refine V_iadd hc d_M0_step_186 rfl ?_
                  refine V_put (ty := .int) hc uin_M0 0 eM_0 rfl 20 (by decide) t_M0 t_M0_ok n_M0 k_605 rfl (by decide +kernel) rfl rfl (Nat.le_of_ble_eq_true rfl) iM_10 d_M0_step_187 ?_
                  refine V_iinc (v := (v2 + 1)) hc [(2, .int (v2 + 1)), (3, .int 0), (5, .int 1), (4, .int 1), (0, .ref (a 0)), (1, .int v1)] d_M0_step_190 5 rfl (by rfl) (by decide) rfl ?_
                  refine V_goto (tgt := 17) hc d_M0_step_193 rfl ?_
                  refine V_sub [4, 5, 0, 1] [(0, .ref (a 0)), (1, .int v1), (2, .int (v2 + 1)), (3, .int 0)] rfl ?_
                  exact ih v1 (v2 + 1) 0 (s_I (s_I (s_I u8 12 0) 11 (g_I u8 11 + g_I u8 1)) 10 (g_I u8 10 + 1)) hw
                · replace hw := hw.2 h
                  refine V_iconst (v := 1) hc d_M0_step_126 (by decide) ?_
                  refine V_goto (tgt := 131) hc d_M0_step_127 rfl ?_
                  refine V_istore_n hc [(3, .int 1), (5, .int 1), (4, .int 1), (0, .ref (a 0)), (1, .int v1), (2, .int v2)] d_M0_step_131 rfl (by decide) rfl ?_
                  refine V_iload hc d_M0_step_132 1 rfl ?_
                  refine V_if_eq (tgt := 149) hc d_M0_step_134 rfl (fun h => absurd h (by decide)) (fun _ => ?_)
                  refine V_iload_n hc d_M0_step_137 rfl 0 rfl ?_
                  refine V_if_ne (tgt := 149) hc d_M0_step_138 rfl (fun _ => ?_) (fun h => absurd h (by decide))
                  refine V_iload hc d_M0_step_149 2 rfl ?_
                  refine V_if_eq (tgt := 176) hc d_M0_step_151 rfl (fun h => absurd h (by decide)) (fun _ => ?_)
                  refine V_iload_n hc d_M0_step_154 rfl 0 rfl ?_
                  refine V_if_ne (tgt := 176) hc d_M0_step_155 rfl (fun _ => ?_) (fun h => absurd h (by decide))
                  refine V_iload_n hc d_M0_step_176 rfl 0 rfl ?_
                  refine V_if_ne (tgt := 193) hc d_M0_step_177 rfl (fun _ => ?_) (fun h => absurd h (by decide))
                  refine V_goto (tgt := 17) hc d_M0_step_193 rfl ?_
                  refine V_sub [3, 4, 5, 0] [(0, .ref (a 0)), (1, .int v1), (2, .int v2), (3, .int 1)] rfl ?_
                  exact ih v1 v2 1 z hw
set_option maxHeartbeats 4000000 in
set_option maxRecDepth 100000 in
theorem c_M0_step (l : Launch) (K : Nat) (cA : Nat → ClassId) (D : va_G) (a : Nat → Nat) (x1 : Int32) (z : St) : Ct l NS CL D (tyX cA) 19 a (WM K cA a) mkI y_M0_step (.code y_M0_step b_M0_step 6 (some .int) :: TS) { frames := 3, cells := 0, slots := 0, locals := 66 } [.ref (a 0), .int x1] z (w_M0_step K x1 z) := by
  refine Ct.of (by decide) (Nat.le_of_ble_eq_true rfl) adM ?_
  intro Q p e s m args below meth c hc hr hw
  unfold w_M0_step at hw
  refine V_st _ [(0, .ref (a 0)), (1, .int x1)] _ rfl rfl rfl ?_
  refine V_iload_n hc d_M0_step_0 rfl 1 rfl ?_
  refine V_if_lt (tgt := 10) hc d_M0_step_1 rfl (fun h => ?_) (fun h => ?_)
  · replace hw := hw.1 h
    refine V_bipush (v := (-2)) hc d_M0_step_10 (by decide) ?_
    exact V_iret hc NS_nest hr hw d_M0_step_12
  · replace hw := hw.2 h
    refine V_iload_n hc d_M0_step_4 rfl 1 rfl ?_
    refine V_bipush (v := 100) hc d_M0_step_5 (by decide) ?_
    refine V_icmp_le (tgt := 13) hc d_M0_step_7 rfl (fun h => ?_) (fun h => ?_)
    · replace hw := hw.1 h
      refine V_iconst (v := 0) hc d_M0_step_13 (by decide) ?_
      refine V_istore_n hc [(2, .int 0), (0, .ref (a 0)), (1, .int x1)] d_M0_step_14 rfl (by decide) rfl ?_
      refine V_iconst (v := 0) hc d_M0_step_15 (by decide) ?_
      refine V_istore_n hc [(3, .int 0), (2, .int 0), (0, .ref (a 0)), (1, .int x1)] d_M0_step_16 rfl (by decide) rfl ?_
      obtain ⟨n9, hw⟩ := hw
      refine V_sub [2, 3, 1, 0] [(0, .ref (a 0)), (1, .int x1), (2, .int 0), (3, .int 0)] rfl ?_
      exact l_M0_step_17 l K cA D a Q p e s m args below meth c hc hr n9 x1 0 0 z hw
    · replace hw := hw.2 h
      refine V_bipush (v := (-2)) hc d_M0_step_10 (by decide) ?_
      exact V_iret hc NS_nest hr hw d_M0_step_12
def w_M0_waiting (K : Nat)  (z : St) (Q : Int32 → St → Prop) : Prop :=
  Q (g_I z 16) z
set_option maxHeartbeats 4000000 in
set_option maxRecDepth 100000 in
theorem c_M0_waiting (l : Launch) (K : Nat) (cA : Nat → ClassId) (D : va_G) (a : Nat → Nat)  (z : St) : Ct l NS CL D (tyX cA) 19 a (WM K cA a) mkI y_M0_waiting (.code y_M0_waiting b_M0_waiting 1 (some .int) :: TS) { frames := 0, cells := 0, slots := 0, locals := 0 } [.ref (a 0)] z (w_M0_waiting K  z) := by
  refine Ct.of (by decide) (Nat.le_of_ble_eq_true rfl) adM ?_
  intro Q p e s m args below meth c hc hr hw
  unfold w_M0_waiting at hw
  refine V_st _ [(0, .ref (a 0))] _ rfl rfl rfl ?_
  refine V_aload_n hc d_M0_waiting_0 rfl 0 rfl ?_
  refine V_get (v := .int (g_I z 16)) hc uin_M0 0 eM_0 rfl 26 (by decide) k_611 rfl d_M0_waiting_1 ?_
  exact V_iret hc NS_nest hr hw d_M0_waiting_4
def w_M0_tick_35 (K : Nat) (k : Int32 → Int32 → Int32 → St → Prop) (Q : Int32 → St → Prop) : Nat → Int32 → Int32 → Int32 → Int32 → St → Prop
  | 0, _, _, _, _, _ => False
  | n + 1, v1, v2, v3, v4, z => ((g_I z 16 ≤ v4 → k v1 v2 v3 z) ∧ (¬ g_I z 16 ≤ v4 → (vp_in v4 4 ∧ (((g_I z 17 - (g_A z 12 (v4 : Int32).toNatClampNeg)) < g_I z 2 → w_M0_tick_35 K k Q n v1 v2 v3 (v4 + 1) z) ∧ (¬ (g_I z 17 - (g_A z 12 (v4 : Int32).toNatClampNeg)) < g_I z 2 → w_M0_send K v4 z (fun r1 u2 => w_M0_tick_35 K k Q n v1 (v2 + 1) v3 (v4 + 1) u2))))))
def w_M0_tick_17 (K : Nat) (Q : Int32 → St → Prop) : Nat → Int32 → Int32 → Int32 → St → Prop
  | 0, _, _, _, _ => False
  | n + 1, v1, v2, v3, z => ((v1 ≤ v3 → Q v2 z) ∧ (¬ v1 ≤ v3 → (∃ n9, w_M0_tick_35 K (fun (y1 : Int32) (y2 : Int32) (y3 : Int32) (z3 : St) => w_M0_tick_17 K Q n y1 y2 (y3 + 1) z3) Q n9 v1 v2 v3 0 (s_I z 17 (g_I z 17 + 1)))))
def w_M0_tick (K : Nat) (x1 : Int32) (z : St) (Q : Int32 → St → Prop) : Prop :=
  ((x1 < 0 → Q (-2) z) ∧ (¬ x1 < 0 → ((x1 ≤ 50 → (∃ n9, w_M0_tick_17 K Q n9 x1 0 0 z)) ∧ (¬ x1 ≤ 50 → Q (-2) z))))
set_option maxHeartbeats 4000000 in
set_option maxRecDepth 100000 in
theorem l_M0_tick_35 (l : Launch) (K : Nat) (cA : Nat → ClassId) (D : va_G) (a : Nat → Nat) (Q : Int32 → St → Prop) (p : Program) (e : Env) (s : State) (m : MethodId) (args : Array Value) (below : List Frame) (meth : Method) (c : Code) (hc : Cx TS NS CL D (tyX cA) p s m args meth c b_M0_tick 5 y_M0_tick.cls) (hr : meth.sig.returnType = (some .int)) (k : Int32 → Int32 → Int32 → St → Prop) (hk : ∀ (v1 : Int32) (v2 : Int32) (v3 : Int32) (z : St), k v1 v2 v3 z → V CL p l e { frames := 2, cells := 0, slots := 0, locals := 45 } s m args below meth c 5 D (AX 19 a s.heap.size) 0 0 (MQ below (Qg NS CL D (tyX cA) (WM K cA a) (AX 19 a s.heap.size) mkI Q) args s 0 0 (AX 19 a s.heap.size)) (WM K cA a z) 78 [(0, .ref (a 0)), (1, .int v1), (2, .int v2), (3, .int v3)] []) : ∀ (n : Nat) (v1 : Int32) (v2 : Int32) (v3 : Int32) (v4 : Int32) (z : St), w_M0_tick_35 K k Q n v1 v2 v3 v4 z → V CL p l e { frames := 2, cells := 0, slots := 0, locals := 45 } s m args below meth c 5 D (AX 19 a s.heap.size) 0 0 (MQ below (Qg NS CL D (tyX cA) (WM K cA a) (AX 19 a s.heap.size) mkI Q) args s 0 0 (AX 19 a s.heap.size)) (WM K cA a z) 35 [(0, .ref (a 0)), (1, .int v1), (2, .int v2), (3, .int v3), (4, .int v4)] [] := by
  intro n
  induction n with
  | zero =>
    intro v1 v2 v3 v4 z hw
    exact hw.elim
  | succ n ih =>
    intro v1 v2 v3 v4 z hw
    unfold w_M0_tick_35 at hw
    refine V_iload hc d_M0_tick_35 4 rfl ?_
    refine V_aload_n hc d_M0_tick_37 rfl 0 rfl ?_
    refine V_get (v := .int (g_I z 16)) hc uin_M0 0 eM_0 rfl 26 (by decide) k_611 rfl d_M0_tick_38 ?_
    refine V_icmp_ge (tgt := 78) hc d_M0_tick_41 rfl (fun h => ?_) (fun h => ?_)
    · replace hw := hw.1 h
      refine V_sub [0, 1, 2, 3] [(0, .ref (a 0)), (1, .int v1), (2, .int v2), (3, .int v3)] rfl ?_
      exact hk v1 v2 v3 z hw
    · replace hw := hw.2 h
      refine V_aload_n hc d_M0_tick_44 rfl 0 rfl ?_
      refine V_get (v := .int (g_I z 17)) hc uin_M0 0 eM_0 rfl 30 (by decide) k_615 rfl d_M0_tick_45 ?_
      refine V_aload_n hc d_M0_tick_48 rfl 0 rfl ?_
      refine V_get (v := .ref (a 13)) hc uin_M0 0 eM_0 rfl 29 (by decide) k_614 rfl d_M0_tick_49 ?_
      refine V_iload hc d_M0_tick_52 4 rfl ?_
      obtain ⟨hi, hw⟩ := hw
      refine V_iald (x := g_A z 12 (v4 : Int32).toNatClampNeg) hc 13 0 eM_13 rfl hi rfl d_M0_tick_54 ?_
      refine V_isub hc d_M0_tick_55 rfl ?_
      refine V_aload_n hc d_M0_tick_56 rfl 0 rfl ?_
      refine V_get (v := .int (g_I z 2)) hc uin_M0 0 eM_0 rfl 2 (by decide) k_587 rfl d_M0_tick_57 ?_
      refine V_icmp_lt (tgt := 72) hc d_M0_tick_60 rfl (fun h => ?_) (fun h => ?_)
      · replace hw := hw.1 h
        refine V_iinc (v := (v4 + 1)) hc [(4, .int (v4 + 1)), (0, .ref (a 0)), (1, .int v1), (2, .int v2), (3, .int v3)] d_M0_tick_72 4 rfl (by rfl) (by decide) rfl ?_
        refine V_goto (tgt := 35) hc d_M0_tick_75 rfl ?_
        refine V_sub [1, 2, 3, 4, 0] [(0, .ref (a 0)), (1, .int v1), (2, .int v2), (3, .int v3), (4, .int (v4 + 1))] rfl ?_
        exact ih v1 v2 v3 (v4 + 1) z hw
      · replace hw := hw.2 h
        refine V_aload_n hc d_M0_tick_63 rfl 0 rfl ?_
        refine V_iload hc d_M0_tick_64 4 rfl ?_
        refine V_callVv (As := [.int v4]) (st := []) hc TS_good NS_nest (fun _ h => h) (c_M0_send l K cA D a v4 z) k_817 k_10 k_820 k_819 kp_M0_send 0 eM_0 rfl q_M0_send (by decide) (Nat.zero_le _) (Nat.zero_le _) rfl (Nat.le_of_ble_eq_true rfl) d_M0_tick_66 hw (fun r1 u2 hw => ?_)
        try dsimp only at hw
        refine V_iinc (v := (v2 + 1)) hc [(2, .int (v2 + 1)), (0, .ref (a 0)), (1, .int v1), (3, .int v3), (4, .int v4)] d_M0_tick_69 2 rfl (by rfl) (by decide) rfl ?_
        refine V_iinc (v := (v4 + 1)) hc [(4, .int (v4 + 1)), (2, .int (v2 + 1)), (0, .ref (a 0)), (1, .int v1), (3, .int v3)] d_M0_tick_72 4 rfl (by rfl) (by decide) rfl ?_
        refine V_goto (tgt := 35) hc d_M0_tick_75 rfl ?_
        refine V_sub [2, 3, 1, 4, 0] [(0, .ref (a 0)), (1, .int v1), (2, .int (v2 + 1)), (3, .int v3), (4, .int (v4 + 1))] rfl ?_
        exact ih v1 (v2 + 1) v3 (v4 + 1) u2 hw
set_option maxHeartbeats 4000000 in
set_option maxRecDepth 100000 in
theorem l_M0_tick_17 (l : Launch) (K : Nat) (cA : Nat → ClassId) (D : va_G) (a : Nat → Nat) (Q : Int32 → St → Prop) (p : Program) (e : Env) (s : State) (m : MethodId) (args : Array Value) (below : List Frame) (meth : Method) (c : Code) (hc : Cx TS NS CL D (tyX cA) p s m args meth c b_M0_tick 5 y_M0_tick.cls) (hr : meth.sig.returnType = (some .int)) : ∀ (n : Nat) (v1 : Int32) (v2 : Int32) (v3 : Int32) (z : St), w_M0_tick_17 K Q n v1 v2 v3 z → V CL p l e { frames := 2, cells := 0, slots := 0, locals := 45 } s m args below meth c 5 D (AX 19 a s.heap.size) 0 0 (MQ below (Qg NS CL D (tyX cA) (WM K cA a) (AX 19 a s.heap.size) mkI Q) args s 0 0 (AX 19 a s.heap.size)) (WM K cA a z) 17 [(0, .ref (a 0)), (1, .int v1), (2, .int v2), (3, .int v3)] [] := by
  intro n
  induction n with
  | zero =>
    intro v1 v2 v3 z hw
    exact hw.elim
  | succ n ih =>
    intro v1 v2 v3 z hw
    unfold w_M0_tick_17 at hw
    refine V_iload_n hc d_M0_tick_17 rfl 3 rfl ?_
    refine V_iload_n hc d_M0_tick_18 rfl 1 rfl ?_
    refine V_icmp_ge (tgt := 84) hc d_M0_tick_19 rfl (fun h => ?_) (fun h => ?_)
    · replace hw := hw.1 h
      refine V_iload_n hc d_M0_tick_84 rfl 2 rfl ?_
      exact V_iret hc NS_nest hr hw d_M0_tick_85
    · replace hw := hw.2 h
      refine V_aload_n hc d_M0_tick_22 rfl 0 rfl ?_
      refine V_dup hc d_M0_tick_23 rfl ?_
      refine V_get (v := .int (g_I z 17)) hc uin_M0 0 eM_0 rfl 30 (by decide) k_615 rfl d_M0_tick_24 ?_
      refine V_iconst (v := 1) hc d_M0_tick_27 (by decide) ?_
      refine V_iadd hc d_M0_tick_28 rfl ?_
      refine V_put (ty := .int) hc uin_M0 0 eM_0 rfl 30 (by decide) t_M0 t_M0_ok n_M0 k_615 rfl (by decide +kernel) rfl rfl (Nat.le_of_ble_eq_true rfl) iM_17 d_M0_tick_29 ?_
      refine V_iconst (v := 0) hc d_M0_tick_32 (by decide) ?_
      refine V_istore hc [(4, .int 0), (0, .ref (a 0)), (1, .int v1), (2, .int v2), (3, .int v3)] d_M0_tick_33 (by decide) rfl ?_
      obtain ⟨n9, hw⟩ := hw
      refine V_sub [1, 2, 3, 4, 0] [(0, .ref (a 0)), (1, .int v1), (2, .int v2), (3, .int v3), (4, .int 0)] rfl ?_
      refine l_M0_tick_35 l K cA D a Q p e s m args below meth c hc hr _ (fun y1 y2 y3 z3 hw => ?_) n9 v1 v2 v3 0 (s_I z 17 (g_I z 17 + 1)) hw
      try dsimp only at hw
      refine V_iinc (v := (y3 + 1)) hc [(3, .int (y3 + 1)), (0, .ref (a 0)), (1, .int y1), (2, .int y2)] d_M0_tick_78 3 rfl (by rfl) (by decide) rfl ?_
      refine V_goto (tgt := 17) hc d_M0_tick_81 rfl ?_
      refine V_sub [1, 2, 3, 0] [(0, .ref (a 0)), (1, .int y1), (2, .int y2), (3, .int (y3 + 1))] rfl ?_
      exact ih y1 y2 (y3 + 1) z3 hw
set_option maxHeartbeats 4000000 in
set_option maxRecDepth 100000 in
theorem c_M0_tick (l : Launch) (K : Nat) (cA : Nat → ClassId) (D : va_G) (a : Nat → Nat) (x1 : Int32) (z : St) : Ct l NS CL D (tyX cA) 19 a (WM K cA a) mkI y_M0_tick (.code y_M0_tick b_M0_tick 5 (some .int) :: TS) { frames := 2, cells := 0, slots := 0, locals := 45 } [.ref (a 0), .int x1] z (w_M0_tick K x1 z) := by
  refine Ct.of (by decide) (Nat.le_of_ble_eq_true rfl) adM ?_
  intro Q p e s m args below meth c hc hr hw
  unfold w_M0_tick at hw
  refine V_st _ [(0, .ref (a 0)), (1, .int x1)] _ rfl rfl rfl ?_
  refine V_iload_n hc d_M0_tick_0 rfl 1 rfl ?_
  refine V_if_lt (tgt := 10) hc d_M0_tick_1 rfl (fun h => ?_) (fun h => ?_)
  · replace hw := hw.1 h
    refine V_bipush (v := (-2)) hc d_M0_tick_10 (by decide) ?_
    exact V_iret hc NS_nest hr hw d_M0_tick_12
  · replace hw := hw.2 h
    refine V_iload_n hc d_M0_tick_4 rfl 1 rfl ?_
    refine V_bipush (v := 50) hc d_M0_tick_5 (by decide) ?_
    refine V_icmp_le (tgt := 13) hc d_M0_tick_7 rfl (fun h => ?_) (fun h => ?_)
    · replace hw := hw.1 h
      refine V_iconst (v := 0) hc d_M0_tick_13 (by decide) ?_
      refine V_istore_n hc [(2, .int 0), (0, .ref (a 0)), (1, .int x1)] d_M0_tick_14 rfl (by decide) rfl ?_
      refine V_iconst (v := 0) hc d_M0_tick_15 (by decide) ?_
      refine V_istore_n hc [(3, .int 0), (2, .int 0), (0, .ref (a 0)), (1, .int x1)] d_M0_tick_16 rfl (by decide) rfl ?_
      obtain ⟨n9, hw⟩ := hw
      refine V_sub [2, 3, 1, 0] [(0, .ref (a 0)), (1, .int x1), (2, .int 0), (3, .int 0)] rfl ?_
      exact l_M0_tick_17 l K cA D a Q p e s m args below meth c hc hr n9 x1 0 0 z hw
    · replace hw := hw.2 h
      refine V_bipush (v := (-2)) hc d_M0_tick_10 (by decide) ?_
      exact V_iret hc NS_nest hr hw d_M0_tick_12
def w_M0_take_12 (K : Nat) (Q : Unit → St → Prop) : Nat → Int32 → St → Prop
  | 0, _, _ => False
  | n + 1, v2, z => ((g_I z 18 ≤ v2 → Q () z) ∧ (¬ g_I z 18 ≤ v2 → (vp_in (v2 + 1) 8 ∧ (vp_in v2 8 ∧ (vp_in (v2 + 1) 8 ∧ (vp_in v2 8 ∧ (vp_in (v2 + 1) 8 ∧ (vp_in v2 8 ∧ (vp_in (v2 + 1) 8 ∧ (vp_in v2 8 ∧ w_M0_take_12 K Q n (v2 + 1) (s_A (s_A (s_A (s_A z 13 (v2 : Int32).toNatClampNeg (g_A z 13 ((v2 + 1) : Int32).toNatClampNeg)) 14 (v2 : Int32).toNatClampNeg (g_A z 14 ((v2 + 1) : Int32).toNatClampNeg)) 15 (v2 : Int32).toNatClampNeg (g_A z 15 ((v2 + 1) : Int32).toNatClampNeg)) 16 (v2 : Int32).toNatClampNeg (g_A z 16 ((v2 + 1) : Int32).toNatClampNeg))))))))))))
def w_M0_take (K : Nat) (x1 : Int32) (z : St) (Q : Unit → St → Prop) : Prop :=
  (∃ n9, w_M0_take_12 K Q n9 x1 (s_I z 18 (g_I z 18 - 1)))
set_option maxHeartbeats 4000000 in
set_option maxRecDepth 100000 in
theorem l_M0_take_12 (l : Launch) (K : Nat) (cA : Nat → ClassId) (D : va_G) (a : Nat → Nat) (Q : Unit → St → Prop) (p : Program) (e : Env) (s : State) (m : MethodId) (args : Array Value) (below : List Frame) (meth : Method) (c : Code) (hc : Cx TS NS CL D (tyX cA) p s m args meth c b_M0_take 3 y_M0_take.cls) (hr : meth.sig.returnType = none) : ∀ (n : Nat) (v2 : Int32) (z : St), w_M0_take_12 K Q n v2 z → V CL p l e { frames := 0, cells := 0, slots := 0, locals := 0 } s m args below meth c 3 D (AX 19 a s.heap.size) 0 0 (MQ below (Qg NS CL D (tyX cA) (WM K cA a) (AX 19 a s.heap.size) mkV Q) args s 0 0 (AX 19 a s.heap.size)) (WM K cA a z) 12 [(0, .ref (a 0)), (2, .int v2)] [] := by
  intro n
  induction n with
  | zero =>
    intro v2 z hw
    exact hw.elim
  | succ n ih =>
    intro v2 z hw
    unfold w_M0_take_12 at hw
    refine V_iload_n hc d_M0_take_12 rfl 1 rfl ?_
    refine V_aload_n hc d_M0_take_13 rfl 0 rfl ?_
    refine V_get (v := .int (g_I z 18)) hc uin_M0 0 eM_0 rfl 31 (by decide) k_616 rfl d_M0_take_14 ?_
    refine V_icmp_ge (tgt := 82) hc d_M0_take_17 rfl (fun h => ?_) (fun h => ?_)
    · replace hw := hw.1 h
      exact V_vret hc NS_nest hr hw d_M0_take_82
    · replace hw := hw.2 h
      refine V_aload_n hc d_M0_take_20 rfl 0 rfl ?_
      refine V_get (v := .ref (a 14)) hc uin_M0 0 eM_0 rfl 32 (by decide) k_617 rfl d_M0_take_21 ?_
      refine V_iload_n hc d_M0_take_24 rfl 1 rfl ?_
      refine V_aload_n hc d_M0_take_25 rfl 0 rfl ?_
      refine V_get (v := .ref (a 14)) hc uin_M0 0 eM_0 rfl 32 (by decide) k_617 rfl d_M0_take_26 ?_
      refine V_iload_n hc d_M0_take_29 rfl 1 rfl ?_
      refine V_iconst (v := 1) hc d_M0_take_30 (by decide) ?_
      refine V_iadd hc d_M0_take_31 rfl ?_
      obtain ⟨hi, hw⟩ := hw
      refine V_iald (x := g_A z 13 ((v2 + 1) : Int32).toNatClampNeg) hc 14 0 eM_14 rfl hi rfl d_M0_take_32 ?_
      obtain ⟨hi, hw⟩ := hw
      refine V_iast hc 14 0 eM_14 rfl hi sM_14 d_M0_take_33 ?_
      refine V_aload_n hc d_M0_take_34 rfl 0 rfl ?_
      refine V_get (v := .ref (a 15)) hc uin_M0 0 eM_0 rfl 33 (by decide) k_618 rfl d_M0_take_35 ?_
      refine V_iload_n hc d_M0_take_38 rfl 1 rfl ?_
      refine V_aload_n hc d_M0_take_39 rfl 0 rfl ?_
      refine V_get (v := .ref (a 15)) hc uin_M0 0 eM_0 rfl 33 (by decide) k_618 rfl d_M0_take_40 ?_
      refine V_iload_n hc d_M0_take_43 rfl 1 rfl ?_
      refine V_iconst (v := 1) hc d_M0_take_44 (by decide) ?_
      refine V_iadd hc d_M0_take_45 rfl ?_
      obtain ⟨hi, hw⟩ := hw
      refine V_iald (x := g_A z 14 ((v2 + 1) : Int32).toNatClampNeg) hc 15 0 eM_15 rfl hi rfl d_M0_take_46 ?_
      obtain ⟨hi, hw⟩ := hw
      refine V_iast hc 15 0 eM_15 rfl hi sM_15 d_M0_take_47 ?_
      refine V_aload_n hc d_M0_take_48 rfl 0 rfl ?_
      refine V_get (v := .ref (a 16)) hc uin_M0 0 eM_0 rfl 34 (by decide) k_619 rfl d_M0_take_49 ?_
      refine V_iload_n hc d_M0_take_52 rfl 1 rfl ?_
      refine V_aload_n hc d_M0_take_53 rfl 0 rfl ?_
      refine V_get (v := .ref (a 16)) hc uin_M0 0 eM_0 rfl 34 (by decide) k_619 rfl d_M0_take_54 ?_
      refine V_iload_n hc d_M0_take_57 rfl 1 rfl ?_
      refine V_iconst (v := 1) hc d_M0_take_58 (by decide) ?_
      refine V_iadd hc d_M0_take_59 rfl ?_
      obtain ⟨hi, hw⟩ := hw
      refine V_iald (x := g_A z 15 ((v2 + 1) : Int32).toNatClampNeg) hc 16 0 eM_16 rfl hi rfl d_M0_take_60 ?_
      obtain ⟨hi, hw⟩ := hw
      refine V_iast hc 16 0 eM_16 rfl hi sM_16 d_M0_take_61 ?_
      refine V_aload_n hc d_M0_take_62 rfl 0 rfl ?_
      refine V_get (v := .ref (a 17)) hc uin_M0 0 eM_0 rfl 35 (by decide) k_620 rfl d_M0_take_63 ?_
      refine V_iload_n hc d_M0_take_66 rfl 1 rfl ?_
      refine V_aload_n hc d_M0_take_67 rfl 0 rfl ?_
      refine V_get (v := .ref (a 17)) hc uin_M0 0 eM_0 rfl 35 (by decide) k_620 rfl d_M0_take_68 ?_
      refine V_iload_n hc d_M0_take_71 rfl 1 rfl ?_
      refine V_iconst (v := 1) hc d_M0_take_72 (by decide) ?_
      refine V_iadd hc d_M0_take_73 rfl ?_
      obtain ⟨hi, hw⟩ := hw
      refine V_iald (x := g_A z 16 ((v2 + 1) : Int32).toNatClampNeg) hc 17 0 eM_17 rfl hi rfl d_M0_take_74 ?_
      obtain ⟨hi, hw⟩ := hw
      refine V_iast hc 17 0 eM_17 rfl hi sM_17 d_M0_take_75 ?_
      refine V_iinc (v := (v2 + 1)) hc [(2, .int (v2 + 1)), (0, .ref (a 0))] d_M0_take_76 1 rfl (by rfl) (by decide) rfl ?_
      refine V_goto (tgt := 12) hc d_M0_take_79 rfl ?_
      refine V_sub [1, 0] [(0, .ref (a 0)), (2, .int (v2 + 1))] rfl ?_
      exact ih (v2 + 1) (s_A (s_A (s_A (s_A z 13 (v2 : Int32).toNatClampNeg (g_A z 13 ((v2 + 1) : Int32).toNatClampNeg)) 14 (v2 : Int32).toNatClampNeg (g_A z 14 ((v2 + 1) : Int32).toNatClampNeg)) 15 (v2 : Int32).toNatClampNeg (g_A z 15 ((v2 + 1) : Int32).toNatClampNeg)) 16 (v2 : Int32).toNatClampNeg (g_A z 16 ((v2 + 1) : Int32).toNatClampNeg)) hw
set_option maxHeartbeats 4000000 in
set_option maxRecDepth 100000 in
theorem c_M0_take (l : Launch) (K : Nat) (cA : Nat → ClassId) (D : va_G) (a : Nat → Nat) (x1 : Int32) (z : St) : Ct l NS CL D (tyX cA) 19 a (WM K cA a) mkV y_M0_take (.code y_M0_take b_M0_take 3 none :: TS) { frames := 0, cells := 0, slots := 0, locals := 0 } [.ref (a 0), .int x1] z (w_M0_take K x1 z) := by
  refine Ct.of (by decide) (Nat.le_of_ble_eq_true rfl) adM ?_
  intro Q p e s m args below meth c hc hr hw
  unfold w_M0_take at hw
  refine V_st _ [(0, .ref (a 0)), (1, .int x1)] _ rfl rfl rfl ?_
  refine V_aload_n hc d_M0_take_0 rfl 0 rfl ?_
  refine V_dup hc d_M0_take_1 rfl ?_
  refine V_get (v := .int (g_I z 18)) hc uin_M0 0 eM_0 rfl 31 (by decide) k_616 rfl d_M0_take_2 ?_
  refine V_iconst (v := 1) hc d_M0_take_5 (by decide) ?_
  refine V_isub hc d_M0_take_6 rfl ?_
  refine V_put (ty := .int) hc uin_M0 0 eM_0 rfl 31 (by decide) t_M0 t_M0_ok n_M0 k_616 rfl (by decide +kernel) rfl rfl (Nat.le_of_ble_eq_true rfl) iM_18 d_M0_take_7 ?_
  refine V_iload_n hc d_M0_take_10 rfl 1 rfl ?_
  refine V_istore_n hc [(2, .int x1), (0, .ref (a 0)), (1, .int x1)] d_M0_take_11 rfl (by decide) rfl ?_
  obtain ⟨n9, hw⟩ := hw
  refine V_sub [1, 0] [(0, .ref (a 0)), (2, .int x1)] rfl ?_
  exact l_M0_take_12 l K cA D a Q p e s m args below meth c hc hr n9 x1 (s_I z 18 (g_I z 18 - 1)) hw
def w_M0_leave_4 (K : Nat) (Q : Unit → St → Prop) : Nat → Int32 → Int32 → Int32 → St → Prop
  | 0, _, _, _, _ => False
  | n + 1, v1, v2, v3, z => ((g_I z 16 ≤ v3 → Q () (s_I z 16 v2)) ∧ (¬ g_I z 16 ≤ v3 → (vp_in v3 4 ∧ (((g_A z 10 (v3 : Int32).toNatClampNeg) ≤ v1 → w_M0_leave_4 K Q n v1 v2 (v3 + 1) z) ∧ (¬ (g_A z 10 (v3 : Int32).toNatClampNeg) ≤ v1 → (vp_in v3 4 ∧ (vp_in v2 4 ∧ (vp_in v3 4 ∧ (vp_in v2 4 ∧ (vp_in v3 4 ∧ (vp_in v2 4 ∧ w_M0_leave_4 K Q n v1 (v2 + 1) (v3 + 1) (s_A (s_A (s_A z 10 (v2 : Int32).toNatClampNeg (g_A z 10 (v3 : Int32).toNatClampNeg)) 11 (v2 : Int32).toNatClampNeg (g_A z 11 (v3 : Int32).toNatClampNeg)) 12 (v2 : Int32).toNatClampNeg (g_A z 12 (v3 : Int32).toNatClampNeg)))))))))))))
def w_M0_leave (K : Nat) (x1 : Int32) (z : St) (Q : Unit → St → Prop) : Prop :=
  (∃ n9, w_M0_leave_4 K Q n9 x1 0 0 z)
set_option maxHeartbeats 4000000 in
set_option maxRecDepth 100000 in
theorem l_M0_leave_4 (l : Launch) (K : Nat) (cA : Nat → ClassId) (D : va_G) (a : Nat → Nat) (Q : Unit → St → Prop) (p : Program) (e : Env) (s : State) (m : MethodId) (args : Array Value) (below : List Frame) (meth : Method) (c : Code) (hc : Cx TS NS CL D (tyX cA) p s m args meth c b_M0_leave 4 y_M0_leave.cls) (hr : meth.sig.returnType = none) : ∀ (n : Nat) (v1 : Int32) (v2 : Int32) (v3 : Int32) (z : St), w_M0_leave_4 K Q n v1 v2 v3 z → V CL p l e { frames := 0, cells := 0, slots := 0, locals := 0 } s m args below meth c 4 D (AX 19 a s.heap.size) 0 0 (MQ below (Qg NS CL D (tyX cA) (WM K cA a) (AX 19 a s.heap.size) mkV Q) args s 0 0 (AX 19 a s.heap.size)) (WM K cA a z) 4 [(0, .ref (a 0)), (1, .int v1), (2, .int v2), (3, .int v3)] [] := by
  intro n
  induction n with
  | zero =>
    intro v1 v2 v3 z hw
    exact hw.elim
  | succ n ih =>
    intro v1 v2 v3 z hw
    unfold w_M0_leave_4 at hw
    refine V_iload_n hc d_M0_leave_4 rfl 3 rfl ?_
    refine V_aload_n hc d_M0_leave_5 rfl 0 rfl ?_
    refine V_get (v := .int (g_I z 16)) hc uin_M0 0 eM_0 rfl 26 (by decide) k_611 rfl d_M0_leave_6 ?_
    refine V_icmp_ge (tgt := 67) hc d_M0_leave_9 rfl (fun h => ?_) (fun h => ?_)
    · replace hw := hw.1 h
      refine V_aload_n hc d_M0_leave_67 rfl 0 rfl ?_
      refine V_iload_n hc d_M0_leave_68 rfl 2 rfl ?_
      refine V_put (ty := .int) hc uin_M0 0 eM_0 rfl 26 (by decide) t_M0 t_M0_ok n_M0 k_611 rfl (by decide +kernel) rfl rfl (Nat.le_of_ble_eq_true rfl) iM_16 d_M0_leave_69 ?_
      exact V_vret hc NS_nest hr hw d_M0_leave_72
    · replace hw := hw.2 h
      refine V_aload_n hc d_M0_leave_12 rfl 0 rfl ?_
      refine V_get (v := .ref (a 11)) hc uin_M0 0 eM_0 rfl 27 (by decide) k_612 rfl d_M0_leave_13 ?_
      refine V_iload_n hc d_M0_leave_16 rfl 3 rfl ?_
      obtain ⟨hi, hw⟩ := hw
      refine V_iald (x := g_A z 10 (v3 : Int32).toNatClampNeg) hc 11 0 eM_11 rfl hi rfl d_M0_leave_17 ?_
      refine V_iload_n hc d_M0_leave_18 rfl 1 rfl ?_
      refine V_icmp_le (tgt := 61) hc d_M0_leave_19 rfl (fun h => ?_) (fun h => ?_)
      · replace hw := hw.1 h
        refine V_iinc (v := (v3 + 1)) hc [(3, .int (v3 + 1)), (0, .ref (a 0)), (1, .int v1), (2, .int v2)] d_M0_leave_61 3 rfl (by rfl) (by decide) rfl ?_
        refine V_goto (tgt := 4) hc d_M0_leave_64 rfl ?_
        refine V_sub [1, 2, 3, 0] [(0, .ref (a 0)), (1, .int v1), (2, .int v2), (3, .int (v3 + 1))] rfl ?_
        exact ih v1 v2 (v3 + 1) z hw
      · replace hw := hw.2 h
        refine V_aload_n hc d_M0_leave_22 rfl 0 rfl ?_
        refine V_get (v := .ref (a 11)) hc uin_M0 0 eM_0 rfl 27 (by decide) k_612 rfl d_M0_leave_23 ?_
        refine V_iload_n hc d_M0_leave_26 rfl 2 rfl ?_
        refine V_aload_n hc d_M0_leave_27 rfl 0 rfl ?_
        refine V_get (v := .ref (a 11)) hc uin_M0 0 eM_0 rfl 27 (by decide) k_612 rfl d_M0_leave_28 ?_
        refine V_iload_n hc d_M0_leave_31 rfl 3 rfl ?_
        obtain ⟨hi, hw⟩ := hw
        refine V_iald (x := g_A z 10 (v3 : Int32).toNatClampNeg) hc 11 0 eM_11 rfl hi rfl d_M0_leave_32 ?_
        obtain ⟨hi, hw⟩ := hw
        refine V_iast hc 11 0 eM_11 rfl hi sM_11 d_M0_leave_33 ?_
        refine V_aload_n hc d_M0_leave_34 rfl 0 rfl ?_
        refine V_get (v := .ref (a 12)) hc uin_M0 0 eM_0 rfl 28 (by decide) k_613 rfl d_M0_leave_35 ?_
        refine V_iload_n hc d_M0_leave_38 rfl 2 rfl ?_
        refine V_aload_n hc d_M0_leave_39 rfl 0 rfl ?_
        refine V_get (v := .ref (a 12)) hc uin_M0 0 eM_0 rfl 28 (by decide) k_613 rfl d_M0_leave_40 ?_
        refine V_iload_n hc d_M0_leave_43 rfl 3 rfl ?_
        obtain ⟨hi, hw⟩ := hw
        refine V_iald (x := g_A z 11 (v3 : Int32).toNatClampNeg) hc 12 0 eM_12 rfl hi rfl d_M0_leave_44 ?_
        obtain ⟨hi, hw⟩ := hw
        refine V_iast hc 12 0 eM_12 rfl hi sM_12 d_M0_leave_45 ?_
        refine V_aload_n hc d_M0_leave_46 rfl 0 rfl ?_
        refine V_get (v := .ref (a 13)) hc uin_M0 0 eM_0 rfl 29 (by decide) k_614 rfl d_M0_leave_47 ?_
        refine V_iload_n hc d_M0_leave_50 rfl 2 rfl ?_
        refine V_aload_n hc d_M0_leave_51 rfl 0 rfl ?_
        refine V_get (v := .ref (a 13)) hc uin_M0 0 eM_0 rfl 29 (by decide) k_614 rfl d_M0_leave_52 ?_
        refine V_iload_n hc d_M0_leave_55 rfl 3 rfl ?_
        obtain ⟨hi, hw⟩ := hw
        refine V_iald (x := g_A z 12 (v3 : Int32).toNatClampNeg) hc 13 0 eM_13 rfl hi rfl d_M0_leave_56 ?_
        obtain ⟨hi, hw⟩ := hw
        refine V_iast hc 13 0 eM_13 rfl hi sM_13 d_M0_leave_57 ?_
        refine V_iinc (v := (v2 + 1)) hc [(2, .int (v2 + 1)), (0, .ref (a 0)), (1, .int v1), (3, .int v3)] d_M0_leave_58 2 rfl (by rfl) (by decide) rfl ?_
        refine V_iinc (v := (v3 + 1)) hc [(3, .int (v3 + 1)), (2, .int (v2 + 1)), (0, .ref (a 0)), (1, .int v1)] d_M0_leave_61 3 rfl (by rfl) (by decide) rfl ?_
        refine V_goto (tgt := 4) hc d_M0_leave_64 rfl ?_
        refine V_sub [2, 3, 1, 0] [(0, .ref (a 0)), (1, .int v1), (2, .int (v2 + 1)), (3, .int (v3 + 1))] rfl ?_
        exact ih v1 (v2 + 1) (v3 + 1) (s_A (s_A (s_A z 10 (v2 : Int32).toNatClampNeg (g_A z 10 (v3 : Int32).toNatClampNeg)) 11 (v2 : Int32).toNatClampNeg (g_A z 11 (v3 : Int32).toNatClampNeg)) 12 (v2 : Int32).toNatClampNeg (g_A z 12 (v3 : Int32).toNatClampNeg)) hw
set_option maxHeartbeats 4000000 in
set_option maxRecDepth 100000 in
theorem c_M0_leave (l : Launch) (K : Nat) (cA : Nat → ClassId) (D : va_G) (a : Nat → Nat) (x1 : Int32) (z : St) : Ct l NS CL D (tyX cA) 19 a (WM K cA a) mkV y_M0_leave (.code y_M0_leave b_M0_leave 4 none :: TS) { frames := 0, cells := 0, slots := 0, locals := 0 } [.ref (a 0), .int x1] z (w_M0_leave K x1 z) := by
  refine Ct.of (by decide) (Nat.le_of_ble_eq_true rfl) adM ?_
  intro Q p e s m args below meth c hc hr hw
  unfold w_M0_leave at hw
  refine V_st _ [(0, .ref (a 0)), (1, .int x1)] _ rfl rfl rfl ?_
  refine V_iconst (v := 0) hc d_M0_leave_0 (by decide) ?_
  refine V_istore_n hc [(2, .int 0), (0, .ref (a 0)), (1, .int x1)] d_M0_leave_1 rfl (by decide) rfl ?_
  refine V_iconst (v := 0) hc d_M0_leave_2 (by decide) ?_
  refine V_istore_n hc [(3, .int 0), (2, .int 0), (0, .ref (a 0)), (1, .int x1)] d_M0_leave_3 rfl (by decide) rfl ?_
  obtain ⟨n9, hw⟩ := hw
  refine V_sub [2, 3, 1, 0] [(0, .ref (a 0)), (1, .int x1), (2, .int 0), (3, .int 0)] rfl ?_
  exact l_M0_leave_4 l K cA D a Q p e s m args below meth c hc hr n9 x1 0 0 z hw
def w_M0_acknowledge (K : Nat)  (z : St) (Q : Unit → St → Prop) : Prop :=
  w_M0_position K  z (fun r1 u2 => w_M0_add K 2 (g_I u2 7) r1 0 u2 (fun r3 u4 => Q () u4))
set_option maxHeartbeats 4000000 in
set_option maxRecDepth 100000 in
theorem c_M0_acknowledge (l : Launch) (K : Nat) (cA : Nat → ClassId) (D : va_G) (a : Nat → Nat)  (z : St) : Ct l NS CL D (tyX cA) 19 a (WM K cA a) mkV y_M0_acknowledge (.code y_M0_acknowledge b_M0_acknowledge 2 none :: TS) { frames := 1, cells := 0, slots := 0, locals := 24 } [.ref (a 0)] z (w_M0_acknowledge K  z) := by
  refine Ct.of (by decide) (Nat.le_of_ble_eq_true rfl) adM ?_
  intro Q p e s m args below meth c hc hr hw
  unfold w_M0_acknowledge at hw
  refine V_st _ [(0, .ref (a 0))] _ rfl rfl rfl ?_
  refine V_aload_n hc d_M0_acknowledge_0 rfl 0 rfl ?_
  refine V_callVi (As := []) (st := []) hc TS_good NS_nest (fun _ h => h) (c_M0_position l K cA D a  z) k_803 k_10 k_752 k_750 k_751 0 eM_0 rfl q_M0_position (by decide) (Nat.zero_le _) (Nat.zero_le _) rfl (Nat.le_of_ble_eq_true rfl) d_M0_acknowledge_1 hw (fun r1 u2 hw => ?_)
  try dsimp only at hw
  refine V_istore_n hc [(1, .int r1), (0, .ref (a 0))] d_M0_acknowledge_4 rfl (by decide) rfl ?_
  refine V_aload_n hc d_M0_acknowledge_5 rfl 1 rfl ?_
  refine V_iconst (v := 2) hc d_M0_acknowledge_6 (by decide) ?_
  refine V_aload_n hc d_M0_acknowledge_7 rfl 1 rfl ?_
  refine V_get (v := .int (g_I u2 7)) hc uin_M0 0 eM_0 rfl 17 (by decide) k_602 rfl d_M0_acknowledge_8 ?_
  refine V_iload_n hc d_M0_acknowledge_11 rfl 0 rfl ?_
  refine V_iconst (v := 0) hc d_M0_acknowledge_12 (by decide) ?_
  refine V_callVv (As := [.int 2, .int (g_I u2 7), .int r1, .int 0]) (st := []) hc TS_good NS_nest (fun _ h => h) (c_M0_add l K cA D a 2 (g_I u2 7) r1 0 u2) k_821 k_10 k_824 k_823 kp_M0_add 0 eM_0 rfl q_M0_add (by decide) (Nat.zero_le _) (Nat.zero_le _) rfl (Nat.le_of_ble_eq_true rfl) d_M0_acknowledge_13 hw (fun r3 u4 hw => ?_)
  try dsimp only at hw
  exact V_vret hc NS_nest hr hw d_M0_acknowledge_16
def w_M0_deliver (K : Nat) (x1 : Int32) (z : St) (Q : Int32 → St → Prop) : Prop :=
  ((x1 < 0 → Q 0 z) ∧ (¬ x1 < 0 → ((x1 < g_I z 18 → (vp_in x1 8 ∧ (vp_in x1 8 ∧ (vp_in x1 8 ∧ (vp_in x1 8 ∧ ((¬ (g_A z 14 (x1 : Int32).toNatClampNeg) = g_I z 7 → w_M0_take K x1 z (fun r1 u2 => Q 1 u2)) ∧ ((g_A z 14 (x1 : Int32).toNatClampNeg) = g_I z 7 → w_M0_take K x1 z (fun r3 u4 => ((¬ (g_A z 13 (x1 : Int32).toNatClampNeg) = 2 → w_M0_position K  u4 (fun r5 u6 => ((r5 < (g_A z 15 (x1 : Int32).toNatClampNeg) → w_M0_position K  u6 (fun r7 u8 => ((¬ (g_A z 16 (x1 : Int32).toNatClampNeg) = r7 → Q 1 u8) ∧ ((g_A z 16 (x1 : Int32).toNatClampNeg) = r7 → ((0 ≤ g_I u8 20 → Q 1 u8) ∧ (¬ 0 ≤ g_I u8 20 → Q 1 (s_I u8 20 (g_A z 15 (x1 : Int32).toNatClampNeg)))))))) ∧ (¬ r5 < (g_A z 15 (x1 : Int32).toNatClampNeg) → w_M0_acknowledge K  u6 (fun r9 u10 => Q 1 u10))))) ∧ ((g_A z 13 (x1 : Int32).toNatClampNeg) = 2 → w_M0_leave K (g_A z 15 (x1 : Int32).toNatClampNeg) u4 (fun r11 u12 => Q 1 u12))))))))))) ∧ (¬ x1 < g_I z 18 → Q 0 z))))
set_option maxHeartbeats 4000000 in
set_option maxRecDepth 100000 in
theorem c_M0_deliver (l : Launch) (K : Nat) (cA : Nat → ClassId) (D : va_G) (a : Nat → Nat) (x1 : Int32) (z : St) : Ct l NS CL D (tyX cA) 19 a (WM K cA a) mkI y_M0_deliver (.code y_M0_deliver b_M0_deliver 6 (some .boolean) :: TS) { frames := 2, cells := 0, slots := 0, locals := 45 } [.ref (a 0), .int x1] z (w_M0_deliver K x1 z) := by
  refine Ct.of (by decide) (Nat.le_of_ble_eq_true rfl) adM ?_
  intro Q p e s m args below meth c hc hr hw
  unfold w_M0_deliver at hw
  refine V_st _ [(0, .ref (a 0)), (1, .int x1)] _ rfl rfl rfl ?_
  refine V_iload_n hc d_M0_deliver_0 rfl 1 rfl ?_
  refine V_if_lt (tgt := 12) hc d_M0_deliver_1 rfl (fun h => ?_) (fun h => ?_)
  · replace hw := hw.1 h
    refine V_iconst (v := 0) hc d_M0_deliver_12 (by decide) ?_
    exact V_zret hc NS_nest hr (by decide) hw d_M0_deliver_13
  · replace hw := hw.2 h
    refine V_iload_n hc d_M0_deliver_4 rfl 1 rfl ?_
    refine V_aload_n hc d_M0_deliver_5 rfl 0 rfl ?_
    refine V_get (v := .int (g_I z 18)) hc uin_M0 0 eM_0 rfl 31 (by decide) k_616 rfl d_M0_deliver_6 ?_
    refine V_icmp_lt (tgt := 14) hc d_M0_deliver_9 rfl (fun h => ?_) (fun h => ?_)
    · replace hw := hw.1 h
      refine V_aload_n hc d_M0_deliver_14 rfl 0 rfl ?_
      refine V_get (v := .ref (a 14)) hc uin_M0 0 eM_0 rfl 32 (by decide) k_617 rfl d_M0_deliver_15 ?_
      refine V_iload_n hc d_M0_deliver_18 rfl 1 rfl ?_
      obtain ⟨hi, hw⟩ := hw
      refine V_iald (x := g_A z 13 (x1 : Int32).toNatClampNeg) hc 14 0 eM_14 rfl hi rfl d_M0_deliver_19 ?_
      refine V_istore_n hc [(2, .int (g_A z 13 (x1 : Int32).toNatClampNeg)), (0, .ref (a 0)), (1, .int x1)] d_M0_deliver_20 rfl (by decide) rfl ?_
      refine V_aload_n hc d_M0_deliver_21 rfl 1 rfl ?_
      refine V_get (v := .ref (a 16)) hc uin_M0 0 eM_0 rfl 34 (by decide) k_619 rfl d_M0_deliver_22 ?_
      refine V_iload_n hc d_M0_deliver_25 rfl 2 rfl ?_
      obtain ⟨hi, hw⟩ := hw
      refine V_iald (x := g_A z 15 (x1 : Int32).toNatClampNeg) hc 16 0 eM_16 rfl hi rfl d_M0_deliver_26 ?_
      refine V_istore_n hc [(3, .int (g_A z 15 (x1 : Int32).toNatClampNeg)), (2, .int (g_A z 13 (x1 : Int32).toNatClampNeg)), (0, .ref (a 0)), (1, .int x1)] d_M0_deliver_27 rfl (by decide) rfl ?_
      refine V_aload_n hc d_M0_deliver_28 rfl 2 rfl ?_
      refine V_get (v := .ref (a 17)) hc uin_M0 0 eM_0 rfl 35 (by decide) k_620 rfl d_M0_deliver_29 ?_
      refine V_iload_n hc d_M0_deliver_32 rfl 3 rfl ?_
      obtain ⟨hi, hw⟩ := hw
      refine V_iald (x := g_A z 16 (x1 : Int32).toNatClampNeg) hc 17 0 eM_17 rfl hi rfl d_M0_deliver_33 ?_
      refine V_istore hc [(4, .int (g_A z 16 (x1 : Int32).toNatClampNeg)), (3, .int (g_A z 15 (x1 : Int32).toNatClampNeg)), (2, .int (g_A z 13 (x1 : Int32).toNatClampNeg)), (0, .ref (a 0)), (1, .int x1)] d_M0_deliver_34 (by decide) rfl ?_
      refine V_aload_n hc d_M0_deliver_36 rfl 3 rfl ?_
      refine V_get (v := .ref (a 15)) hc uin_M0 0 eM_0 rfl 33 (by decide) k_618 rfl d_M0_deliver_37 ?_
      refine V_iload_n hc d_M0_deliver_40 rfl 4 rfl ?_
      obtain ⟨hi, hw⟩ := hw
      refine V_iald (x := g_A z 14 (x1 : Int32).toNatClampNeg) hc 15 0 eM_15 rfl hi rfl d_M0_deliver_41 ?_
      refine V_aload_n hc d_M0_deliver_42 rfl 3 rfl ?_
      refine V_get (v := .int (g_I z 7)) hc uin_M0 0 eM_0 rfl 17 (by decide) k_602 rfl d_M0_deliver_43 ?_
      refine V_icmp_ne (tgt := 53) hc d_M0_deliver_46 rfl (fun h => ?_) (fun h => ?_)
      · replace hw := hw.1 h
        refine V_iconst (v := 0) hc d_M0_deliver_53 (by decide) ?_
        refine V_istore hc [(5, .int 0), (4, .int (g_A z 16 (x1 : Int32).toNatClampNeg)), (3, .int (g_A z 15 (x1 : Int32).toNatClampNeg)), (2, .int (g_A z 13 (x1 : Int32).toNatClampNeg)), (0, .ref (a 0)), (1, .int x1)] d_M0_deliver_54 (by decide) rfl ?_
        refine V_aload_n hc d_M0_deliver_56 rfl 4 rfl ?_
        refine V_iload_n hc d_M0_deliver_57 rfl 5 rfl ?_
        refine V_callVv (As := [.int x1]) (st := []) hc TS_good NS_nest (fun _ h => h) (c_M0_take l K cA D a x1 z) k_837 k_10 k_840 k_839 kp_M0_take 0 eM_0 rfl q_M0_take (by decide) (Nat.zero_le _) (Nat.zero_le _) rfl (Nat.le_of_ble_eq_true rfl) d_M0_deliver_58 hw (fun r1 u2 hw => ?_)
        try dsimp only at hw
        refine V_iload hc d_M0_deliver_61 0 rfl ?_
        refine V_if_ne (tgt := 68) hc d_M0_deliver_63 rfl (fun h => absurd h (by decide)) (fun _ => ?_)
        refine V_iconst (v := 1) hc d_M0_deliver_66 (by decide) ?_
        exact V_zret hc NS_nest hr (by decide) hw d_M0_deliver_67
      · replace hw := hw.2 h
        refine V_iconst (v := 1) hc d_M0_deliver_49 (by decide) ?_
        refine V_goto (tgt := 54) hc d_M0_deliver_50 rfl ?_
        refine V_istore hc [(5, .int 1), (4, .int (g_A z 16 (x1 : Int32).toNatClampNeg)), (3, .int (g_A z 15 (x1 : Int32).toNatClampNeg)), (2, .int (g_A z 13 (x1 : Int32).toNatClampNeg)), (0, .ref (a 0)), (1, .int x1)] d_M0_deliver_54 (by decide) rfl ?_
        refine V_aload_n hc d_M0_deliver_56 rfl 4 rfl ?_
        refine V_iload_n hc d_M0_deliver_57 rfl 5 rfl ?_
        refine V_callVv (As := [.int x1]) (st := []) hc TS_good NS_nest (fun _ h => h) (c_M0_take l K cA D a x1 z) k_837 k_10 k_840 k_839 kp_M0_take 0 eM_0 rfl q_M0_take (by decide) (Nat.zero_le _) (Nat.zero_le _) rfl (Nat.le_of_ble_eq_true rfl) d_M0_deliver_58 hw (fun r3 u4 hw => ?_)
        try dsimp only at hw
        refine V_iload hc d_M0_deliver_61 0 rfl ?_
        refine V_if_ne (tgt := 68) hc d_M0_deliver_63 rfl (fun _ => ?_) (fun h => absurd h (by decide))
        refine V_iload_n hc d_M0_deliver_68 rfl 3 rfl ?_
        refine V_iconst (v := 2) hc d_M0_deliver_69 (by decide) ?_
        refine V_icmp_ne (tgt := 81) hc d_M0_deliver_70 rfl (fun h => ?_) (fun h => ?_)
        · replace hw := hw.1 h
          refine V_iload_n hc d_M0_deliver_81 rfl 2 rfl ?_
          refine V_aload_n hc d_M0_deliver_82 rfl 4 rfl ?_
          refine V_callVi (As := []) (st := [.int (g_A z 15 (x1 : Int32).toNatClampNeg)]) hc TS_good NS_nest (fun _ h => h) (c_M0_position l K cA D a  u4) k_803 k_10 k_752 k_750 k_751 0 eM_0 rfl q_M0_position (by decide) (Nat.zero_le _) (Nat.zero_le _) rfl (Nat.le_of_ble_eq_true rfl) d_M0_deliver_83 hw (fun r5 u6 hw => ?_)
          try dsimp only at hw
          refine V_icmp_gt (tgt := 96) hc d_M0_deliver_86 rfl (fun h => ?_) (fun h => ?_)
          · replace hw := hw.1 h
            refine V_iload hc d_M0_deliver_96 1 rfl ?_
            refine V_aload_n hc d_M0_deliver_98 rfl 4 rfl ?_
            refine V_callVi (As := []) (st := [.int (g_A z 16 (x1 : Int32).toNatClampNeg)]) hc TS_good NS_nest (fun _ h => h) (c_M0_position l K cA D a  u6) k_803 k_10 k_752 k_750 k_751 0 eM_0 rfl q_M0_position (by decide) (Nat.zero_le _) (Nat.zero_le _) rfl (Nat.le_of_ble_eq_true rfl) d_M0_deliver_99 hw (fun r7 u8 hw => ?_)
            try dsimp only at hw
            refine V_icmp_ne (tgt := 117) hc d_M0_deliver_102 rfl (fun h => ?_) (fun h => ?_)
            · replace hw := hw.1 h
              refine V_iconst (v := 1) hc d_M0_deliver_117 (by decide) ?_
              exact V_zret hc NS_nest hr (by decide) hw d_M0_deliver_118
            · replace hw := hw.2 h
              refine V_aload_n hc d_M0_deliver_105 rfl 4 rfl ?_
              refine V_get (v := .int (g_I u8 20)) hc uin_M0 0 eM_0 rfl 38 (by decide) k_623 rfl d_M0_deliver_106 ?_
              refine V_if_ge (tgt := 117) hc d_M0_deliver_109 rfl (fun h => ?_) (fun h => ?_)
              · replace hw := hw.1 h
                refine V_iconst (v := 1) hc d_M0_deliver_117 (by decide) ?_
                exact V_zret hc NS_nest hr (by decide) hw d_M0_deliver_118
              · replace hw := hw.2 h
                refine V_aload_n hc d_M0_deliver_112 rfl 4 rfl ?_
                refine V_iload_n hc d_M0_deliver_113 rfl 2 rfl ?_
                refine V_put (ty := .int) hc uin_M0 0 eM_0 rfl 38 (by decide) t_M0 t_M0_ok n_M0 k_623 rfl (by decide +kernel) rfl rfl (Nat.le_of_ble_eq_true rfl) iM_20 d_M0_deliver_114 ?_
                refine V_iconst (v := 1) hc d_M0_deliver_117 (by decide) ?_
                exact V_zret hc NS_nest hr (by decide) hw d_M0_deliver_118
          · replace hw := hw.2 h
            refine V_aload_n hc d_M0_deliver_89 rfl 4 rfl ?_
            refine V_callVv (As := []) (st := []) hc TS_good NS_nest (fun _ h => h) (c_M0_acknowledge l K cA D a  u6) k_845 k_10 k_848 k_847 kp_M0_acknowledge 0 eM_0 rfl q_M0_acknowledge (by decide) (Nat.zero_le _) (Nat.zero_le _) rfl (Nat.le_of_ble_eq_true rfl) d_M0_deliver_90 hw (fun r9 u10 hw => ?_)
            try dsimp only at hw
            refine V_goto (tgt := 117) hc d_M0_deliver_93 rfl ?_
            refine V_iconst (v := 1) hc d_M0_deliver_117 (by decide) ?_
            exact V_zret hc NS_nest hr (by decide) hw d_M0_deliver_118
        · replace hw := hw.2 h
          refine V_aload_n hc d_M0_deliver_73 rfl 4 rfl ?_
          refine V_iload_n hc d_M0_deliver_74 rfl 2 rfl ?_
          refine V_callVv (As := [.int (g_A z 15 (x1 : Int32).toNatClampNeg)]) (st := []) hc TS_good NS_nest (fun _ h => h) (c_M0_leave l K cA D a (g_A z 15 (x1 : Int32).toNatClampNeg) u4) k_841 k_10 k_844 k_843 kp_M0_leave 0 eM_0 rfl q_M0_leave (by decide) (Nat.zero_le _) (Nat.zero_le _) rfl (Nat.le_of_ble_eq_true rfl) d_M0_deliver_75 hw (fun r11 u12 hw => ?_)
          try dsimp only at hw
          refine V_goto (tgt := 117) hc d_M0_deliver_78 rfl ?_
          refine V_iconst (v := 1) hc d_M0_deliver_117 (by decide) ?_
          exact V_zret hc NS_nest hr (by decide) hw d_M0_deliver_118
    · replace hw := hw.2 h
      refine V_iconst (v := 0) hc d_M0_deliver_12 (by decide) ?_
      exact V_zret hc NS_nest hr (by decide) hw d_M0_deliver_13
