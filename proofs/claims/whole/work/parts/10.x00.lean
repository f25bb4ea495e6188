def w_X0_within (K : Nat) (x1 : Int32) (x2 : Int32) (z : St) (Q : Int32 → St → Prop) : Prop :=
  Q (if 1 < (if x1 < x2 then x1 else x2) then (if x1 < x2 then x1 else x2) else 1) z
set_option maxHeartbeats 4000000 in
set_option maxRecDepth 100000 in
theorem c_X0_within (l : Launch) (K : Nat) (cA : Nat → ClassId) (D : va_G) (a : Nat → Nat) (x1 : Int32) (x2 : Int32) (z : St) : Ct l NS CL D (tyX cA) 0 a (fun _ => []) mkI y_X0_within (.code y_X0_within b_X0_within 2 (some .int) :: TS) { frames := 1, cells := 0, slots := 0, locals := 21 } [.int x1, .int x2] z (w_X0_within K x1 x2 z) := by
  refine Ct.of (by decide) (Nat.le_of_ble_eq_true rfl) ad0 ?_
  intro Q p e s m args below meth c hc hr hw
  unfold w_X0_within at hw
  refine V_st _ [(0, .int x1), (1, .int x2)] _ rfl rfl rfl ?_
  refine V_iconst (v := 1) hc d_X0_within_0 (by decide) ?_
  refine V_iload_n hc d_X0_within_1 rfl 1 rfl ?_
  refine V_iload_n hc d_X0_within_2 rfl 0 rfl ?_
  refine V_mmin hc k_23 k_24 k_2 k_25 (by decide) (Nat.le_of_ble_eq_true rfl) (Nat.zero_le _) (Nat.zero_le _) rfl d_X0_within_3 ?_
  refine V_mmax hc k_26 k_27 k_2 k_28 (by decide) (Nat.le_of_ble_eq_true rfl) (Nat.zero_le _) (Nat.zero_le _) rfl d_X0_within_6 ?_
  exact V_iret hc NS_nest hr hw d_X0_within_9
def w_X0_rowOf (K : Nat) (x1 : Int32) (x2 : Int32) (z : St) (Q : Int64 → St → Prop) : Prop :=
  Q (((x1 : Int32).toInt64 <<< ((32 : Int32).toInt64 &&& 63)) ||| ((x2 : Int32).toInt64 &&& 4294967295)) z
set_option maxHeartbeats 4000000 in
set_option maxRecDepth 100000 in
theorem c_X0_rowOf (l : Launch) (K : Nat) (cA : Nat → ClassId) (D : va_G) (a : Nat → Nat) (x1 : Int32) (x2 : Int32) (z : St) : Ct l NS CL D (tyX cA) 0 a (fun _ => []) mkL y_X0_rowOf (.code y_X0_rowOf b_X0_rowOf 2 (some .long) :: TS) { frames := 0, cells := 0, slots := 0, locals := 0 } [.int x1, .int x2] z (w_X0_rowOf K x1 x2 z) := by
  refine Ct.of (by decide) (Nat.le_of_ble_eq_true rfl) ad0 ?_
  intro Q p e s m args below meth c hc hr hw
  unfold w_X0_rowOf at hw
  refine V_st _ [(0, .int x1), (1, .int x2)] _ rfl rfl rfl ?_
  refine V_iload_n hc d_X0_rowOf_0 rfl 0 rfl ?_
  refine V_i2l hc d_X0_rowOf_1 rfl ?_
  refine V_bipush (v := 32) hc d_X0_rowOf_2 (by decide) ?_
  refine V_lshl hc d_X0_rowOf_4 rfl ?_
  refine V_iload_n hc d_X0_rowOf_5 rfl 1 rfl ?_
  refine V_i2l hc d_X0_rowOf_6 rfl ?_
  refine V_ldc2 (v := 4294967295) hc k_71 d_X0_rowOf_7 ?_
  refine V_land hc d_X0_rowOf_10 rfl ?_
  refine V_lor hc d_X0_rowOf_11 rfl ?_
  exact V_lret hc NS_nest hr hw d_X0_rowOf_12
def w_X1_hasRoom (K : Nat) (x1 : Int32) (x2 : Int32) (z : St) (Q : Int32 → St → Prop) : Prop :=
  ((((160 - g_I z 19) - x1) < (g_I z 1 + x2) → Q 0 z) ∧ (¬ ((160 - g_I z 19) - x1) < (g_I z 1 + x2) → Q 1 z))
set_option maxHeartbeats 4000000 in
set_option maxRecDepth 100000 in
theorem c_X1_hasRoom (l : Launch) (K : Nat) (cA : Nat → ClassId) (D : va_G) (a : Nat → Nat) (x1 : Int32) (x2 : Int32) (z : St) : Ct l NS CL D (tyX cA) 23 a (WX K cA a) mkI y_X1_hasRoom (.code y_X1_hasRoom b_X1_hasRoom 3 (some .boolean) :: TS) { frames := 0, cells := 0, slots := 0, locals := 0 } [.ref (a 1), .int x1, .int x2] z (w_X1_hasRoom K x1 x2 z) := by
  refine Ct.of (by decide) (Nat.le_of_ble_eq_true rfl) adX ?_
  intro Q p e s m args below meth c hc hr hw
  unfold w_X1_hasRoom at hw
  refine V_st _ [(0, .ref (a 1)), (1, .int x1), (2, .int x2)] _ rfl rfl rfl ?_
  refine V_sipush (v := 160) hc d_X1_hasRoom_0 (by decide) ?_
  refine V_aload_n hc d_X1_hasRoom_3 rfl 0 rfl ?_
  refine V_get (v := .ref (a 5)) hc uin_X1 1 eX_1 rfl 0 (by decide) k_73 rfl d_X1_hasRoom_4 ?_
  refine V_getN (v := .int (g_I z 19)) hc uin_X5 5 eX_5 rfl 4 (by decide) k_47 rfl d_X1_hasRoom_7 ?_
  refine V_isub hc d_X1_hasRoom_10 rfl ?_
  refine V_iload_n hc d_X1_hasRoom_11 rfl 1 rfl ?_
  refine V_isub hc d_X1_hasRoom_12 rfl ?_
  refine V_aload_n hc d_X1_hasRoom_13 rfl 0 rfl ?_
  refine V_get (v := .int (g_I z 1)) hc uin_X1 1 eX_1 rfl 5 (by decide) k_78 rfl d_X1_hasRoom_14 ?_
  refine V_iload_n hc d_X1_hasRoom_17 rfl 2 rfl ?_
  refine V_iadd hc d_X1_hasRoom_18 rfl ?_
  refine V_icmp_lt (tgt := 26) hc d_X1_hasRoom_19 rfl (fun h => ?_) (fun h => ?_)
  · replace hw := hw.1 h
    refine V_iconst (v := 0) hc d_X1_hasRoom_26 (by decide) ?_
    exact V_zret hc NS_nest hr (by decide) hw d_X1_hasRoom_27
  · replace hw := hw.2 h
    refine V_iconst (v := 1) hc d_X1_hasRoom_22 (by decide) ?_
    refine V_goto (tgt := 27) hc d_X1_hasRoom_23 rfl ?_
    exact V_zret hc NS_nest hr (by decide) hw d_X1_hasRoom_27
def w_X1_open (K : Nat)  (z : St) (Q : Int32 → St → Prop) : Prop :=
  ((4 ≤ g_I z 1 → Q (-4) z) ∧ (¬ 4 ≤ g_I z 1 → w_X1_hasRoom K 0 1 z (fun r1 u2 => ((¬ r1 = 0 → (vp_in (g_I u2 1) 4 ∧ Q ((g_I u2 2 + 1) - 1) (s_I (s_I (s_A u2 1 (g_I u2 1 : Int32).toNatClampNeg (g_I u2 2)) 1 (g_I u2 1 + 1)) 2 (g_I u2 2 + 1)))) ∧ (r1 = 0 → Q (-4) u2)))))
set_option maxHeartbeats 4000000 in
set_option maxRecDepth 100000 in
theorem c_X1_open (l : Launch) (K : Nat) (cA : Nat → ClassId) (D : va_G) (a : Nat → Nat)  (z : St) : Ct l NS CL D (tyX cA) 23 a (WX K cA a) mkI y_X1_open (.code y_X1_open b_X1_open 1 (some .int) :: TS) { frames := 1, cells := 0, slots := 0, locals := 22 } [.ref (a 1)] z (w_X1_open K  z) := by
  refine Ct.of (by decide) (Nat.le_of_ble_eq_true rfl) adX ?_
  intro Q p e s m args below meth c hc hr hw
  unfold w_X1_open at hw
  refine V_st _ [(0, .ref (a 1))] _ rfl rfl rfl ?_
  refine V_aload_n hc d_X1_open_0 rfl 0 rfl ?_
  refine V_get (v := .int (g_I z 1)) hc uin_X1 1 eX_1 rfl 5 (by decide) k_78 rfl d_X1_open_1 ?_
  refine V_iconst (v := 4) hc d_X1_open_4 (by decide) ?_
  refine V_icmp_ge (tgt := 17) hc d_X1_open_5 rfl (fun h => ?_) (fun h => ?_)
  · replace hw := hw.1 h
    refine V_bipush (v := (-4)) hc d_X1_open_17 (by decide) ?_
    exact V_iret hc NS_nest hr hw d_X1_open_19
  · replace hw := hw.2 h
    refine V_aload_n hc d_X1_open_8 rfl 0 rfl ?_
    refine V_iconst (v := 0) hc d_X1_open_9 (by decide) ?_
    refine V_iconst (v := 1) hc d_X1_open_10 (by decide) ?_
    refine V_callVi (As := [.int 0, .int 1]) (st := []) hc TS_good NS_nest (fun _ h => h) (c_X1_hasRoom l K cA D a 0 1 z) k_257 k_4 k_260 k_258 k_259 1 eX_1 rfl q_X1_hasRoom (by decide) (Nat.zero_le _) (Nat.zero_le _) rfl (Nat.le_of_ble_eq_true rfl) d_X1_open_11 hw (fun r1 u2 hw => ?_)
    try dsimp only at hw
    refine V_if_ne (tgt := 20) hc d_X1_open_14 rfl (fun h => ?_) (fun h => ?_)
    · replace hw := hw.1 h
      refine V_aload_n hc d_X1_open_20 rfl 0 rfl ?_
      refine V_get (v := .ref (a 10)) hc uin_X1 1 eX_1 rfl 4 (by decide) k_77 rfl d_X1_open_21 ?_
      refine V_aload_n hc d_X1_open_24 rfl 0 rfl ?_
      refine V_get (v := .int (g_I u2 1)) hc uin_X1 1 eX_1 rfl 5 (by decide) k_78 rfl d_X1_open_25 ?_
      refine V_aload_n hc d_X1_open_28 rfl 0 rfl ?_
      refine V_get (v := .int (g_I u2 2)) hc uin_X1 1 eX_1 rfl 6 (by decide) k_79 rfl d_X1_open_29 ?_
      obtain ⟨hi, hw⟩ := hw
      refine V_iast hc 10 0 eX_10 rfl hi sX_10 d_X1_open_32 ?_
      refine V_aload_n hc d_X1_open_33 rfl 0 rfl ?_
      refine V_dup hc d_X1_open_34 rfl ?_
      refine V_get (v := .int (g_I u2 1)) hc uin_X1 1 eX_1 rfl 5 (by decide) k_78 rfl d_X1_open_35 ?_
      refine V_iconst (v := 1) hc d_X1_open_38 (by decide) ?_
      refine V_iadd hc d_X1_open_39 rfl ?_
      refine V_put (ty := .int) hc uin_X1 1 eX_1 rfl 5 (by decide) t_X1 t_X1_ok n_X1 k_78 rfl (by decide +kernel) rfl rfl (Nat.le_of_ble_eq_true rfl) iX_1 d_X1_open_40 ?_
      refine V_aload_n hc d_X1_open_43 rfl 0 rfl ?_
      refine V_dup hc d_X1_open_44 rfl ?_
      refine V_get (v := .int (g_I u2 2)) hc uin_X1 1 eX_1 rfl 6 (by decide) k_79 rfl d_X1_open_45 ?_
      refine V_iconst (v := 1) hc d_X1_open_48 (by decide) ?_
      refine V_iadd hc d_X1_open_49 rfl ?_
      refine V_put (ty := .int) hc uin_X1 1 eX_1 rfl 6 (by decide) t_X1 t_X1_ok n_X1 k_79 rfl (by decide +kernel) rfl rfl (Nat.le_of_ble_eq_true rfl) iX_2 d_X1_open_50 ?_
      refine V_aload_n hc d_X1_open_53 rfl 0 rfl ?_
      refine V_get (v := .int (g_I u2 2 + 1)) hc uin_X1 1 eX_1 rfl 6 (by decide) k_79 rfl d_X1_open_54 ?_
      refine V_iconst (v := 1) hc d_X1_open_57 (by decide) ?_
      refine V_isub hc d_X1_open_58 rfl ?_
      exact V_iret hc NS_nest hr hw d_X1_open_59
    · replace hw := hw.2 h
      refine V_bipush (v := (-4)) hc d_X1_open_17 (by decide) ?_
      exact V_iret hc NS_nest hr hw d_X1_open_19
def w_X0_begin (K : Nat)  (z : St) (Q : Int32 → St → Prop) : Prop :=
  w_X1_open K  z (fun r1 u2 => Q r1 u2)
set_option maxHeartbeats 4000000 in
set_option maxRecDepth 100000 in
theorem c_X0_begin (l : Launch) (K : Nat) (cA : Nat → ClassId) (D : va_G) (a : Nat → Nat)  (z : St) : Ct l NS CL D (tyX cA) 23 a (WX K cA a) mkI y_X0_begin (.code y_X0_begin b_X0_begin 1 (some .int) :: TS) { frames := 2, cells := 0, slots := 0, locals := 42 } [.ref (a 0)] z (w_X0_begin K  z) := by
  refine Ct.of (by decide) (Nat.le_of_ble_eq_true rfl) adX ?_
  intro Q p e s m args below meth c hc hr hw
  unfold w_X0_begin at hw
  refine V_st _ [(0, .ref (a 0))] _ rfl rfl rfl ?_
  refine V_aload_n hc d_X0_begin_0 rfl 0 rfl ?_
  refine V_get (v := .ref (a 1)) hc uin_X0 0 eX_0 rfl 1 (by decide) k_234 rfl d_X0_begin_1 ?_
  refine V_callVi (As := []) (st := []) hc TS_good NS_nest (fun _ h => h) (c_X1_open l K cA D a  z) k_253 k_4 k_256 k_254 k_255 1 eX_1 rfl q_X1_open (by decide) (Nat.zero_le _) (Nat.zero_le _) rfl (Nat.le_of_ble_eq_true rfl) d_X0_begin_4 hw (fun r1 u2 hw => ?_)
  try dsimp only at hw
  exact V_iret hc NS_nest hr hw d_X0_begin_7
def w_X1_slotOf_2 (K : Nat) (Q : Int32 → St → Prop) : Nat → Int32 → Int32 → St → Prop
  | 0, _, _, _ => False
  | n + 1, v1, v2, z => ((g_I z 1 ≤ v2 → Q (-1) z) ∧ (¬ g_I z 1 ≤ v2 → (vp_in v2 4 ∧ ((¬ (g_A z 1 (v2 : Int32).toNatClampNeg) = v1 → w_X1_slotOf_2 K Q n v1 (v2 + 1) z) ∧ ((g_A z 1 (v2 : Int32).toNatClampNeg) = v1 → Q v2 z)))))
def w_X1_slotOf (K : Nat) (x1 : Int32) (z : St) (Q : Int32 → St → Prop) : Prop :=
  (∃ n9, w_X1_slotOf_2 K Q n9 x1 0 z)
set_option maxHeartbeats 4000000 in
set_option maxRecDepth 100000 in
theorem l_X1_slotOf_2 (l : Launch) (K : Nat) (cA : Nat → ClassId) (D : va_G) (a : Nat → Nat) (Q : Int32 → St → Prop) (p : Program) (e : Env) (s : State) (m : MethodId) (args : Array Value) (below : List Frame) (meth : Method) (c : Code) (hc : Cx TS NS CL D (tyX cA) p s m args meth c b_X1_slotOf 3 y_X1_slotOf.cls) (hr : meth.sig.returnType = (some .int)) : ∀ (n : Nat) (v1 : Int32) (v2 : Int32) (z : St), w_X1_slotOf_2 K Q n v1 v2 z → V CL p l e { frames := 0, cells := 0, slots := 0, locals := 0 } s m args below meth c 3 D (AX 23 a s.heap.size) 0 0 (MQ below (Qg NS CL D (tyX cA) (WX K cA a) (AX 23 a s.heap.size) mkI Q) args s 0 0 (AX 23 a s.heap.size)) (WX K cA a z) 2 [(0, .ref (a 1)), (1, .int v1), (2, .int v2)] [] := by
  intro n
  induction n with
  | zero =>
    intro v1 v2 z hw
    exact hw.elim
  | succ n ih =>
    intro v1 v2 z hw
    unfold w_X1_slotOf_2 at hw
    refine V_iload_n hc d_X1_slotOf_2 rfl 2 rfl ?_
    refine V_aload_n hc d_X1_slotOf_3 rfl 0 rfl ?_
    refine V_get (v := .int (g_I z 1)) hc uin_X1 1 eX_1 rfl 5 (by decide) k_78 rfl d_X1_slotOf_4 ?_
    refine V_icmp_ge (tgt := 28) hc d_X1_slotOf_7 rfl (fun h => ?_) (fun h => ?_)
    · replace hw := hw.1 h
      refine V_iconst (v := (-1)) hc d_X1_slotOf_28 (by decide) ?_
      exact V_iret hc NS_nest hr hw d_X1_slotOf_29
    · replace hw := hw.2 h
      refine V_aload_n hc d_X1_slotOf_10 rfl 0 rfl ?_
      refine V_get (v := .ref (a 10)) hc uin_X1 1 eX_1 rfl 4 (by decide) k_77 rfl d_X1_slotOf_11 ?_
      refine V_iload_n hc d_X1_slotOf_14 rfl 2 rfl ?_
      obtain ⟨hi, hw⟩ := hw
      refine V_iald (x := g_A z 1 (v2 : Int32).toNatClampNeg) hc 10 0 eX_10 rfl hi rfl d_X1_slotOf_15 ?_
      refine V_iload_n hc d_X1_slotOf_16 rfl 1 rfl ?_
      refine V_icmp_ne (tgt := 22) hc d_X1_slotOf_17 rfl (fun h => ?_) (fun h => ?_)
      · replace hw := hw.1 h
        refine V_iinc (v := (v2 + 1)) hc [(2, .int (v2 + 1)), (0, .ref (a 1)), (1, .int v1)] d_X1_slotOf_22 2 rfl (by rfl) (by decide) rfl ?_
        refine V_goto (tgt := 2) hc d_X1_slotOf_25 rfl ?_
        refine V_sub [1, 2, 0] [(0, .ref (a 1)), (1, .int v1), (2, .int (v2 + 1))] rfl ?_
        exact ih v1 (v2 + 1) z hw
      · replace hw := hw.2 h
        refine V_iload_n hc d_X1_slotOf_20 rfl 2 rfl ?_
        exact V_iret hc NS_nest hr hw d_X1_slotOf_21
set_option maxHeartbeats 4000000 in
set_option maxRecDepth 100000 in
theorem c_X1_slotOf (l : Launch) (K : Nat) (cA : Nat → ClassId) (D : va_G) (a : Nat → Nat) (x1 : Int32) (z : St) : Ct l NS CL D (tyX cA) 23 a (WX K cA a) mkI y_X1_slotOf (.code y_X1_slotOf b_X1_slotOf 3 (some .int) :: TS) { frames := 0, cells := 0, slots := 0, locals := 0 } [.ref (a 1), .int x1] z (w_X1_slotOf K x1 z) := by
  refine Ct.of (by decide) (Nat.le_of_ble_eq_true rfl) adX ?_
  intro Q p e s m args below meth c hc hr hw
  unfold w_X1_slotOf at hw
  refine V_st _ [(0, .ref (a 1)), (1, .int x1)] _ rfl rfl rfl ?_
  refine V_iconst (v := 0) hc d_X1_slotOf_0 (by decide) ?_
  refine V_istore_n hc [(2, .int 0), (0, .ref (a 1)), (1, .int x1)] d_X1_slotOf_1 rfl (by decide) rfl ?_
  obtain ⟨n9, hw⟩ := hw
  refine V_sub [1, 2, 0] [(0, .ref (a 1)), (1, .int x1), (2, .int 0)] rfl ?_
  exact l_X1_slotOf_2 l K cA D a Q p e s m args below meth c hc hr n9 x1 0 z hw
def w_X1_isOpen (K : Nat) (x1 : Int32) (z : St) (Q : Int32 → St → Prop) : Prop :=
  w_X1_slotOf K x1 z (fun r1 u2 => ((r1 = (-1) → Q 0 u2) ∧ (¬ r1 = (-1) → Q 1 u2)))
set_option maxHeartbeats 4000000 in
set_option maxRecDepth 100000 in
theorem c_X1_isOpen (l : Launch) (K : Nat) (cA : Nat → ClassId) (D : va_G) (a : Nat → Nat) (x1 : Int32) (z : St) : Ct l NS CL D (tyX cA) 23 a (WX K cA a) mkI y_X1_isOpen (.code y_X1_isOpen b_X1_isOpen 2 (some .boolean) :: TS) { frames := 1, cells := 0, slots := 0, locals := 22 } [.ref (a 1), .int x1] z (w_X1_isOpen K x1 z) := by
  refine Ct.of (by decide) (Nat.le_of_ble_eq_true rfl) adX ?_
  intro Q p e s m args below meth c hc hr hw
  unfold w_X1_isOpen at hw
  refine V_st _ [(0, .ref (a 1)), (1, .int x1)] _ rfl rfl rfl ?_
  refine V_aload_n hc d_X1_isOpen_0 rfl 0 rfl ?_
  refine V_iload_n hc d_X1_isOpen_1 rfl 1 rfl ?_
  refine V_callVi (As := [.int x1]) (st := []) hc TS_good NS_nest (fun _ h => h) (c_X1_slotOf l K cA D a x1 z) k_273 k_4 k_276 k_275 kp_X1_slotOf 1 eX_1 rfl q_X1_slotOf (by decide) (Nat.zero_le _) (Nat.zero_le _) rfl (Nat.le_of_ble_eq_true rfl) d_X1_isOpen_2 hw (fun r1 u2 hw => ?_)
  try dsimp only at hw
  refine V_iconst (v := (-1)) hc d_X1_isOpen_5 (by decide) ?_
  refine V_icmp_eq (tgt := 13) hc d_X1_isOpen_6 rfl (fun h => ?_) (fun h => ?_)
  · replace hw := hw.1 h
    refine V_iconst (v := 0) hc d_X1_isOpen_13 (by decide) ?_
    exact V_zret hc NS_nest hr (by decide) hw d_X1_isOpen_14
  · replace hw := hw.2 h
    refine V_iconst (v := 1) hc d_X1_isOpen_9 (by decide) ?_
    refine V_goto (tgt := 14) hc d_X1_isOpen_10 rfl ?_
    exact V_zret hc NS_nest hr (by decide) hw d_X1_isOpen_14
def w_X0_isKey (K : Nat) (x1 : Int32) (z : St) (Q : Int32 → St → Prop) : Prop :=
  ((x1 < 0 → Q 0 z) ∧ (¬ x1 < 0 → ((g_I z 0 ≤ x1 → Q 0 z) ∧ (¬ g_I z 0 ≤ x1 → Q 1 z))))
set_option maxHeartbeats 4000000 in
set_option maxRecDepth 100000 in
theorem c_X0_isKey (l : Launch) (K : Nat) (cA : Nat → ClassId) (D : va_G) (a : Nat → Nat) (x1 : Int32) (z : St) : Ct l NS CL D (tyX cA) 23 a (WX K cA a) mkI y_X0_isKey (.code y_X0_isKey b_X0_isKey 2 (some .boolean) :: TS) { frames := 0, cells := 0, slots := 0, locals := 0 } [.ref (a 0), .int x1] z (w_X0_isKey K x1 z) := by
  refine Ct.of (by decide) (Nat.le_of_ble_eq_true rfl) adX ?_
  intro Q p e s m args below meth c hc hr hw
  unfold w_X0_isKey at hw
  refine V_st _ [(0, .ref (a 0)), (1, .int x1)] _ rfl rfl rfl ?_
  refine V_iload_n hc d_X0_isKey_0 rfl 1 rfl ?_
  refine V_if_lt (tgt := 16) hc d_X0_isKey_1 rfl (fun h => ?_) (fun h => ?_)
  · replace hw := hw.1 h
    refine V_iconst (v := 0) hc d_X0_isKey_16 (by decide) ?_
    exact V_zret hc NS_nest hr (by decide) hw d_X0_isKey_17
  · replace hw := hw.2 h
    refine V_iload_n hc d_X0_isKey_4 rfl 1 rfl ?_
    refine V_aload_n hc d_X0_isKey_5 rfl 0 rfl ?_
    refine V_get (v := .int (g_I z 0)) hc uin_X0 0 eX_0 rfl 0 (by decide) k_233 rfl d_X0_isKey_6 ?_
    refine V_icmp_ge (tgt := 16) hc d_X0_isKey_9 rfl (fun h => ?_) (fun h => ?_)
    · replace hw := hw.1 h
      refine V_iconst (v := 0) hc d_X0_isKey_16 (by decide) ?_
      exact V_zret hc NS_nest hr (by decide) hw d_X0_isKey_17
    · replace hw := hw.2 h
      refine V_iconst (v := 1) hc d_X0_isKey_12 (by decide) ?_
      refine V_goto (tgt := 17) hc d_X0_isKey_13 rfl ?_
      exact V_zret hc NS_nest hr (by decide) hw d_X0_isKey_17
def w_X1_isLockedByOther (K : Nat) (x1 : Int32) (x2 : Int32) (z : St) (Q : Int32 → St → Prop) : Prop :=
  (vp_in x2 K ∧ (((g_A z 0 (x2 : Int32).toNatClampNeg) = (-1) → Q 0 z) ∧ (¬ (g_A z 0 (x2 : Int32).toNatClampNeg) = (-1) → (vp_in x2 K ∧ (((g_A z 0 (x2 : Int32).toNatClampNeg) = x1 → Q 0 z) ∧ (¬ (g_A z 0 (x2 : Int32).toNatClampNeg) = x1 → Q 1 z))))))
set_option maxHeartbeats 4000000 in
set_option maxRecDepth 100000 in
theorem c_X1_isLockedByOther (l : Launch) (K : Nat) (cA : Nat → ClassId) (D : va_G) (a : Nat → Nat) (x1 : Int32) (x2 : Int32) (z : St) : Ct l NS CL D (tyX cA) 23 a (WX K cA a) mkI y_X1_isLockedByOther (.code y_X1_isLockedByOther b_X1_isLockedByOther 3 (some .boolean) :: TS) { frames := 0, cells := 0, slots := 0, locals := 0 } [.ref (a 1), .int x1, .int x2] z (w_X1_isLockedByOther K x1 x2 z) := by
  refine Ct.of (by decide) (Nat.le_of_ble_eq_true rfl) adX ?_
  intro Q p e s m args below meth c hc hr hw
  unfold w_X1_isLockedByOther at hw
  refine V_st _ [(0, .ref (a 1)), (1, .int x1), (2, .int x2)] _ rfl rfl rfl ?_
  refine V_aload_n hc d_X1_isLockedByOther_0 rfl 0 rfl ?_
  refine V_get (v := .ref (a 8)) hc uin_X1 1 eX_1 rfl 2 (by decide) k_75 rfl d_X1_isLockedByOther_1 ?_
  refine V_iload_n hc d_X1_isLockedByOther_4 rfl 2 rfl ?_
  obtain ⟨hi, hw⟩ := hw
  refine V_iald (x := g_A z 0 (x2 : Int32).toNatClampNeg) hc 8 0 eX_8 rfl hi rfl d_X1_isLockedByOther_5 ?_
  refine V_iconst (v := (-1)) hc d_X1_isLockedByOther_6 (by decide) ?_
  refine V_icmp_eq (tgt := 24) hc d_X1_isLockedByOther_7 rfl (fun h => ?_) (fun h => ?_)
  · replace hw := hw.1 h
    refine V_iconst (v := 0) hc d_X1_isLockedByOther_24 (by decide) ?_
    exact V_zret hc NS_nest hr (by decide) hw d_X1_isLockedByOther_25
  · replace hw := hw.2 h
    refine V_aload_n hc d_X1_isLockedByOther_10 rfl 0 rfl ?_
    refine V_get (v := .ref (a 8)) hc uin_X1 1 eX_1 rfl 2 (by decide) k_75 rfl d_X1_isLockedByOther_11 ?_
    refine V_iload_n hc d_X1_isLockedByOther_14 rfl 2 rfl ?_
    obtain ⟨hi, hw⟩ := hw
    refine V_iald (x := g_A z 0 (x2 : Int32).toNatClampNeg) hc 8 0 eX_8 rfl hi rfl d_X1_isLockedByOther_15 ?_
    refine V_iload_n hc d_X1_isLockedByOther_16 rfl 1 rfl ?_
    refine V_icmp_eq (tgt := 24) hc d_X1_isLockedByOther_17 rfl (fun h => ?_) (fun h => ?_)
    · replace hw := hw.1 h
      refine V_iconst (v := 0) hc d_X1_isLockedByOther_24 (by decide) ?_
      exact V_zret hc NS_nest hr (by decide) hw d_X1_isLockedByOther_25
    · replace hw := hw.2 h
      refine V_iconst (v := 1) hc d_X1_isLockedByOther_20 (by decide) ?_
      refine V_goto (tgt := 25) hc d_X1_isLockedByOther_21 rfl ?_
      exact V_zret hc NS_nest hr (by decide) hw d_X1_isLockedByOther_25
def w_X0_refusalOf (K : Nat) (x1 : Int32) (x2 : Int32) (z : St) (Q : Int32 → St → Prop) : Prop :=
  w_X1_isOpen K x1 z (fun r1 u2 => ((r1 = 0 → Q (-2) u2) ∧ (¬ r1 = 0 → w_X0_isKey K x2 u2 (fun r3 u4 => ((¬ r3 = 0 → w_X1_isLockedByOther K x1 x2 u4 (fun r5 u6 => ((r5 = 0 → Q 0 u6) ∧ (¬ r5 = 0 → Q (-3) u6)))) ∧ (r3 = 0 → Q (-2) u4))))))
set_option maxHeartbeats 4000000 in
set_option maxRecDepth 100000 in
theorem c_X0_refusalOf (l : Launch) (K : Nat) (cA : Nat → ClassId) (D : va_G) (a : Nat → Nat) (x1 : Int32) (x2 : Int32) (z : St) : Ct l NS CL D (tyX cA) 23 a (WX K cA a) mkI y_X0_refusalOf (.code y_X0_refusalOf b_X0_refusalOf 3 (some .int) :: TS) { frames := 2, cells := 0, slots := 0, locals := 43 } [.ref (a 0), .int x1, .int x2] z (w_X0_refusalOf K x1 x2 z) := by
  refine Ct.of (by decide) (Nat.le_of_ble_eq_true rfl) adX ?_
  intro Q p e s m args below meth c hc hr hw
  unfold w_X0_refusalOf at hw
  refine V_st _ [(0, .ref (a 0)), (1, .int x1), (2, .int x2)] _ rfl rfl rfl ?_
  refine V_aload_n hc d_X0_refusalOf_0 rfl 0 rfl ?_
  refine V_get (v := .ref (a 1)) hc uin_X0 0 eX_0 rfl 1 (by decide) k_234 rfl d_X0_refusalOf_1 ?_
  refine V_iload_n hc d_X0_refusalOf_4 rfl 1 rfl ?_
  refine V_callVi (As := [.int x1]) (st := []) hc TS_good NS_nest (fun _ h => h) (c_X1_isOpen l K cA D a x1 z) k_269 k_4 k_272 k_270 k_271 1 eX_1 rfl q_X1_isOpen (by decide) (Nat.zero_le _) (Nat.zero_le _) rfl (Nat.le_of_ble_eq_true rfl) d_X0_refusalOf_5 hw (fun r1 u2 hw => ?_)
  try dsimp only at hw
  refine V_if_eq (tgt := 19) hc d_X0_refusalOf_8 rfl (fun h => ?_) (fun h => ?_)
  · replace hw := hw.1 h
    refine V_bipush (v := (-2)) hc d_X0_refusalOf_19 (by decide) ?_
    exact V_iret hc NS_nest hr hw d_X0_refusalOf_21
  · replace hw := hw.2 h
    refine V_aload_n hc d_X0_refusalOf_11 rfl 0 rfl ?_
    refine V_iload_n hc d_X0_refusalOf_12 rfl 2 rfl ?_
    refine V_callVi (As := [.int x2]) (st := []) hc TS_good NS_nest (fun _ h => h) (c_X0_isKey l K cA D a x2 u2) k_277 k_1 k_280 k_279 kp_X0_isKey 0 eX_0 rfl q_X0_isKey (by decide) (Nat.zero_le _) (Nat.zero_le _) rfl (Nat.le_of_ble_eq_true rfl) d_X0_refusalOf_13 hw (fun r3 u4 hw => ?_)
    try dsimp only at hw
    refine V_if_ne (tgt := 22) hc d_X0_refusalOf_16 rfl (fun h => ?_) (fun h => ?_)
    · replace hw := hw.1 h
      refine V_aload_n hc d_X0_refusalOf_22 rfl 0 rfl ?_
      refine V_get (v := .ref (a 1)) hc uin_X0 0 eX_0 rfl 1 (by decide) k_234 rfl d_X0_refusalOf_23 ?_
      refine V_iload_n hc d_X0_refusalOf_26 rfl 1 rfl ?_
      refine V_iload_n hc d_X0_refusalOf_27 rfl 2 rfl ?_
      refine V_callVi (As := [.int x1, .int x2]) (st := []) hc TS_good NS_nest (fun _ h => h) (c_X1_isLockedByOther l K cA D a x1 x2 u4) k_281 k_4 k_284 k_282 k_283 1 eX_1 rfl q_X1_isLockedByOther (by decide) (Nat.zero_le _) (Nat.zero_le _) rfl (Nat.le_of_ble_eq_true rfl) d_X0_refusalOf_28 hw (fun r5 u6 hw => ?_)
      try dsimp only at hw
      refine V_if_eq (tgt := 39) hc d_X0_refusalOf_31 rfl (fun h => ?_) (fun h => ?_)
      · replace hw := hw.1 h
        refine V_iconst (v := 0) hc d_X0_refusalOf_39 (by decide) ?_
        exact V_iret hc NS_nest hr hw d_X0_refusalOf_40
      · replace hw := hw.2 h
        refine V_bipush (v := (-3)) hc d_X0_refusalOf_34 (by decide) ?_
        refine V_goto (tgt := 40) hc d_X0_refusalOf_36 rfl ?_
        exact V_iret hc NS_nest hr hw d_X0_refusalOf_40
    · replace hw := hw.2 h
      refine V_bipush (v := (-2)) hc d_X0_refusalOf_19 (by decide) ?_
      exact V_iret hc NS_nest hr hw d_X0_refusalOf_21
def w_X1_takeLock (K : Nat) (x1 : Int32) (x2 : Int32) (z : St) (Q : Unit → St → Prop) : Prop :=
  (vp_in x2 K ∧ Q () (s_A z 0 (x2 : Int32).toNatClampNeg x1))
set_option maxHeartbeats 4000000 in
set_option maxRecDepth 100000 in
theorem c_X1_takeLock (l : Launch) (K : Nat) (cA : Nat → ClassId) (D : va_G) (a : Nat → Nat) (x1 : Int32) (x2 : Int32) (z : St) : Ct l NS CL D (tyX cA) 23 a (WX K cA a) mkV y_X1_takeLock (.code y_X1_takeLock b_X1_takeLock 3 none :: TS) { frames := 0, cells := 0, slots := 0, locals := 0 } [.ref (a 1), .int x1, .int x2] z (w_X1_takeLock K x1 x2 z) := by
  refine Ct.of (by decide) (Nat.le_of_ble_eq_true rfl) adX ?_
  intro Q p e s m args below meth c hc hr hw
  unfold w_X1_takeLock at hw
  refine V_st _ [(0, .ref (a 1)), (1, .int x1), (2, .int x2)] _ rfl rfl rfl ?_
  refine V_aload_n hc d_X1_takeLock_0 rfl 0 rfl ?_
  refine V_get (v := .ref (a 8)) hc uin_X1 1 eX_1 rfl 2 (by decide) k_75 rfl d_X1_takeLock_1 ?_
  refine V_iload_n hc d_X1_takeLock_4 rfl 2 rfl ?_
  refine V_iload_n hc d_X1_takeLock_5 rfl 1 rfl ?_
  obtain ⟨hi, hw⟩ := hw
  refine V_iast hc 8 0 eX_8 rfl hi sX_8 d_X1_takeLock_6 ?_
  exact V_vret hc NS_nest hr hw d_X1_takeLock_7
def w_X0_lock (K : Nat) (x1 : Int32) (x2 : Int32) (z : St) (Q : Int32 → St → Prop) : Prop :=
  w_X0_refusalOf K x1 x2 z (fun r1 u2 => ((r1 = 0 → w_X1_takeLock K x1 x2 u2 (fun r3 u4 => Q 0 u4)) ∧ (¬ r1 = 0 → Q r1 u2)))
set_option maxHeartbeats 4000000 in
set_option maxRecDepth 100000 in
theorem c_X0_lock (l : Launch) (K : Nat) (cA : Nat → ClassId) (D : va_G) (a : Nat → Nat) (x1 : Int32) (x2 : Int32) (z : St) : Ct l NS CL D (tyX cA) 23 a (WX K cA a) mkI y_X0_lock (.code y_X0_lock b_X0_lock 4 (some .int) :: TS) { frames := 3, cells := 0, slots := 0, locals := 65 } [.ref (a 0), .int x1, .int x2] z (w_X0_lock K x1 x2 z) := by
  refine Ct.of (by decide) (Nat.le_of_ble_eq_true rfl) adX ?_
  intro Q p e s m args below meth c hc hr hw
  unfold w_X0_lock at hw
  refine V_st _ [(0, .ref (a 0)), (1, .int x1), (2, .int x2)] _ rfl rfl rfl ?_
  refine V_aload_n hc d_X0_lock_0 rfl 0 rfl ?_
  refine V_iload_n hc d_X0_lock_1 rfl 1 rfl ?_
  refine V_iload_n hc d_X0_lock_2 rfl 2 rfl ?_
  refine V_callVi (As := [.int x1, .int x2]) (st := []) hc TS_good NS_nest (fun _ h => h) (c_X0_refusalOf l K cA D a x1 x2 z) k_265 k_1 k_268 k_267 kp_X0_refusalOf 0 eX_0 rfl q_X0_refusalOf (by decide) (Nat.zero_le _) (Nat.zero_le _) rfl (Nat.le_of_ble_eq_true rfl) d_X0_lock_3 hw (fun r1 u2 hw => ?_)
  try dsimp only at hw
  refine V_istore_n hc [(3, .int r1), (0, .ref (a 0)), (1, .int x1), (2, .int x2)] d_X0_lock_6 rfl (by decide) rfl ?_
  refine V_iload_n hc d_X0_lock_7 rfl 0 rfl ?_
  refine V_if_eq (tgt := 13) hc d_X0_lock_8 rfl (fun h => ?_) (fun h => ?_)
  · replace hw := hw.1 h
    refine V_aload_n hc d_X0_lock_13 rfl 1 rfl ?_
    refine V_get (v := .ref (a 1)) hc uin_X0 0 eX_0 rfl 1 (by decide) k_234 rfl d_X0_lock_14 ?_
    refine V_iload_n hc d_X0_lock_17 rfl 2 rfl ?_
    refine V_iload_n hc d_X0_lock_18 rfl 3 rfl ?_
    refine V_callVv (As := [.int x1, .int x2]) (st := []) hc TS_good NS_nest (fun _ h => h) (c_X1_takeLock l K cA D a x1 x2 u2) k_285 k_4 k_288 k_286 k_287 1 eX_1 rfl q_X1_takeLock (by decide) (Nat.zero_le _) (Nat.zero_le _) rfl (Nat.le_of_ble_eq_true rfl) d_X0_lock_19 hw (fun r3 u4 hw => ?_)
    try dsimp only at hw
    refine V_iconst (v := 0) hc d_X0_lock_22 (by decide) ?_
    exact V_iret hc NS_nest hr hw d_X0_lock_23
  · replace hw := hw.2 h
    refine V_iload_n hc d_X0_lock_11 rfl 0 rfl ?_
    exact V_iret hc NS_nest hr hw d_X0_lock_12
def w_X0_isGroup (K : Nat) (x1 : Int32) (z : St) (Q : Int32 → St → Prop) : Prop :=
  ((x1 < 0 → Q 0 z) ∧ (¬ x1 < 0 → ((4 ≤ x1 → Q 0 z) ∧ (¬ 4 ≤ x1 → Q 1 z))))
set_option maxHeartbeats 4000000 in
set_option maxRecDepth 100000 in
theorem c_X0_isGroup (l : Launch) (K : Nat) (cA : Nat → ClassId) (D : va_G) (a : Nat → Nat) (x1 : Int32) (z : St) : Ct l NS CL D (tyX cA) 0 a (fun _ => []) mkI y_X0_isGroup (.code y_X0_isGroup b_X0_isGroup 1 (some .boolean) :: TS) { frames := 0, cells := 0, slots := 0, locals := 0 } [.int x1] z (w_X0_isGroup K x1 z) := by
  refine Ct.of (by decide) (Nat.le_of_ble_eq_true rfl) ad0 ?_
  intro Q p e s m args below meth c hc hr hw
  unfold w_X0_isGroup at hw
  refine V_st _ [(0, .int x1)] _ rfl rfl rfl ?_
  refine V_iload_n hc d_X0_isGroup_0 rfl 0 rfl ?_
  refine V_if_lt (tgt := 13) hc d_X0_isGroup_1 rfl (fun h => ?_) (fun h => ?_)
  · replace hw := hw.1 h
    refine V_iconst (v := 0) hc d_X0_isGroup_13 (by decide) ?_
    exact V_zret hc NS_nest hr (by decide) hw d_X0_isGroup_14
  · replace hw := hw.2 h
    refine V_iload_n hc d_X0_isGroup_4 rfl 0 rfl ?_
    refine V_iconst (v := 4) hc d_X0_isGroup_5 (by decide) ?_
    refine V_icmp_ge (tgt := 13) hc d_X0_isGroup_6 rfl (fun h => ?_) (fun h => ?_)
    · replace hw := hw.1 h
      refine V_iconst (v := 0) hc d_X0_isGroup_13 (by decide) ?_
      exact V_zret hc NS_nest hr (by decide) hw d_X0_isGroup_14
    · replace hw := hw.2 h
      refine V_iconst (v := 1) hc d_X0_isGroup_9 (by decide) ?_
      refine V_goto (tgt := 14) hc d_X0_isGroup_10 rfl ?_
      exact V_zret hc NS_nest hr (by decide) hw d_X0_isGroup_14
def w_X5_write (K : Nat) (x1 : Int32) (x2 : Int32) (x3 : Int32) (x4 : Int64) (z : St) (Q : Int32 → St → Prop) : Prop :=
  ((g_I z 19 < 160 → (vp_in (g_I z 19) 160 ∧ (vp_in (g_I z 19) 160 ∧ (vp_in (g_I z 19) 160 ∧ (vp_in (g_I z 19) 160 ∧ Q ((g_I z 19 + 1) - 1) (s_I (s_L (s_A (s_A (s_A z 6 (g_I z 19 : Int32).toNatClampNeg x1) 7 (g_I z 19 : Int32).toNatClampNeg x2) 8 (g_I z 19 : Int32).toNatClampNeg x3) 4 (g_I z 19 : Int32).toNatClampNeg x4) 19 (g_I z 19 + 1))))))) ∧ (¬ g_I z 19 < 160 → Q (-4) z))
set_option maxHeartbeats 4000000 in
set_option maxRecDepth 100000 in
theorem c_X5_write (l : Launch) (K : Nat) (cA : Nat → ClassId) (D : va_G) (a : Nat → Nat) (x1 : Int32) (x2 : Int32) (x3 : Int32) (x4 : Int64) (z : St) : Ct l NS CL D (tyX cA) 23 a (WX K cA a) mkI y_X5_write (.code y_X5_write b_X5_write 6 (some .int) :: TS) { frames := 0, cells := 0, slots := 0, locals := 0 } [.ref (a 5), .int x1, .int x2, .int x3, .long x4] z (w_X5_write K x1 x2 x3 x4 z) := by
  refine Ct.of (by decide) (Nat.le_of_ble_eq_true rfl) adX ?_
  intro Q p e s m args below meth c hc hr hw
  unfold w_X5_write at hw
  refine V_st _ [(0, .ref (a 5)), (1, .int x1), (2, .int x2), (3, .int x3), (4, .long x4)] _ rfl rfl rfl ?_
  refine V_aload_n hc d_X5_write_0 rfl 0 rfl ?_
  refine V_get (v := .int (g_I z 19)) hc uin_X5 5 eX_5 rfl 4 (by decide) k_46 rfl d_X5_write_1 ?_
  refine V_sipush (v := 160) hc d_X5_write_4 (by decide) ?_
  refine V_icmp_lt (tgt := 13) hc d_X5_write_7 rfl (fun h => ?_) (fun h => ?_)
  · replace hw := hw.1 h
    refine V_aload_n hc d_X5_write_13 rfl 0 rfl ?_
    refine V_get (v := .ref (a 17)) hc uin_X5 5 eX_5 rfl 0 (by decide) k_35 rfl d_X5_write_14 ?_
    refine V_aload_n hc d_X5_write_17 rfl 0 rfl ?_
    refine V_get (v := .int (g_I z 19)) hc uin_X5 5 eX_5 rfl 4 (by decide) k_46 rfl d_X5_write_18 ?_
    refine V_iload_n hc d_X5_write_21 rfl 1 rfl ?_
    obtain ⟨hi, hw⟩ := hw
    refine V_iast hc 17 0 eX_17 rfl hi sX_17 d_X5_write_22 ?_
    refine V_aload_n hc d_X5_write_23 rfl 0 rfl ?_
    refine V_get (v := .ref (a 18)) hc uin_X5 5 eX_5 rfl 1 (by decide) k_38 rfl d_X5_write_24 ?_
    refine V_aload_n hc d_X5_write_27 rfl 0 rfl ?_
    refine V_get (v := .int (g_I z 19)) hc uin_X5 5 eX_5 rfl 4 (by decide) k_46 rfl d_X5_write_28 ?_
    refine V_iload_n hc d_X5_write_31 rfl 2 rfl ?_
    obtain ⟨hi, hw⟩ := hw
    refine V_iast hc 18 0 eX_18 rfl hi sX_18 d_X5_write_32 ?_
    refine V_aload_n hc d_X5_write_33 rfl 0 rfl ?_
    refine V_get (v := .ref (a 19)) hc uin_X5 5 eX_5 rfl 2 (by decide) k_41 rfl d_X5_write_34 ?_
    refine V_aload_n hc d_X5_write_37 rfl 0 rfl ?_
    refine V_get (v := .int (g_I z 19)) hc uin_X5 5 eX_5 rfl 4 (by decide) k_46 rfl d_X5_write_38 ?_
    refine V_iload_n hc d_X5_write_41 rfl 3 rfl ?_
    obtain ⟨hi, hw⟩ := hw
    refine V_iast hc 19 0 eX_19 rfl hi sX_19 d_X5_write_42 ?_
    refine V_aload_n hc d_X5_write_43 rfl 0 rfl ?_
    refine V_get (v := .ref (a 20)) hc uin_X5 5 eX_5 rfl 3 (by decide) k_44 rfl d_X5_write_44 ?_
    refine V_aload_n hc d_X5_write_47 rfl 0 rfl ?_
    refine V_get (v := .int (g_I z 19)) hc uin_X5 5 eX_5 rfl 4 (by decide) k_46 rfl d_X5_write_48 ?_
    refine V_lload hc d_X5_write_51 4 rfl ?_
    obtain ⟨hi, hw⟩ := hw
    refine V_last hc 20 1 eX_20 rfl hi sX_20 d_X5_write_53 ?_
    refine V_aload_n hc d_X5_write_54 rfl 0 rfl ?_
    refine V_dup hc d_X5_write_55 rfl ?_
    refine V_get (v := .int (g_I z 19)) hc uin_X5 5 eX_5 rfl 4 (by decide) k_46 rfl d_X5_write_56 ?_
    refine V_iconst (v := 1) hc d_X5_write_59 (by decide) ?_
    refine V_iadd hc d_X5_write_60 rfl ?_
    refine V_put (ty := .int) hc uin_X5 5 eX_5 rfl 4 (by decide) t_X5 t_X5_ok n_X5 k_46 rfl (by decide +kernel) rfl rfl (Nat.le_of_ble_eq_true rfl) iX_19 d_X5_write_61 ?_
    refine V_aload_n hc d_X5_write_64 rfl 0 rfl ?_
    refine V_get (v := .int (g_I z 19 + 1)) hc uin_X5 5 eX_5 rfl 4 (by decide) k_46 rfl d_X5_write_65 ?_
    refine V_iconst (v := 1) hc d_X5_write_68 (by decide) ?_
    refine V_isub hc d_X5_write_69 rfl ?_
    exact V_iret hc NS_nest hr hw d_X5_write_70
  · replace hw := hw.2 h
    refine V_bipush (v := (-4)) hc d_X5_write_10 (by decide) ?_
    exact V_iret hc NS_nest hr hw d_X5_write_12
def w_X1_change (K : Nat) (x1 : Int32) (x2 : Int32) (x3 : Int64) (z : St) (Q : Int32 → St → Prop) : Prop :=
  w_X1_hasRoom K 1 0 z (fun r1 u2 => ((¬ r1 = 0 → w_X1_takeLock K x1 x2 u2 (fun r3 u4 => (vp_in x2 K ∧ w_X5_write K 0 x1 x2 x3 (s_L u4 1 (x2 : Int32).toNatClampNeg x3) (fun r5 u6 => Q 0 u6)))) ∧ (r1 = 0 → Q (-4) u2)))
set_option maxHeartbeats 4000000 in
set_option maxRecDepth 100000 in
theorem c_X1_change (l : Launch) (K : Nat) (cA : Nat → ClassId) (D : va_G) (a : Nat → Nat) (x1 : Int32) (x2 : Int32) (x3 : Int64) (z : St) : Ct l NS CL D (tyX cA) 23 a (WX K cA a) mkI y_X1_change (.code y_X1_change b_X1_change 5 (some .int) :: TS) { frames := 1, cells := 0, slots := 0, locals := 25 } [.ref (a 1), .int x1, .int x2, .long x3] z (w_X1_change K x1 x2 x3 z) := by
  refine Ct.of (by decide) (Nat.le_of_ble_eq_true rfl) adX ?_
  intro Q p e s m args below meth c hc hr hw
  unfold w_X1_change at hw
  refine V_st _ [(0, .ref (a 1)), (1, .int x1), (2, .int x2), (3, .long x3)] _ rfl rfl rfl ?_
  refine V_aload_n hc d_X1_change_0 rfl 0 rfl ?_
  refine V_iconst (v := 1) hc d_X1_change_1 (by decide) ?_
  refine V_iconst (v := 0) hc d_X1_change_2 (by decide) ?_
  refine V_callVi (As := [.int 1, .int 0]) (st := []) hc TS_good NS_nest (fun _ h => h) (c_X1_hasRoom l K cA D a 1 0 z) k_257 k_4 k_260 k_258 k_259 1 eX_1 rfl q_X1_hasRoom (by decide) (Nat.zero_le _) (Nat.zero_le _) rfl (Nat.le_of_ble_eq_true rfl) d_X1_change_3 hw (fun r1 u2 hw => ?_)
  try dsimp only at hw
  refine V_if_ne (tgt := 12) hc d_X1_change_6 rfl (fun h => ?_) (fun h => ?_)
  · replace hw := hw.1 h
    refine V_aload_n hc d_X1_change_12 rfl 0 rfl ?_
    refine V_iload_n hc d_X1_change_13 rfl 1 rfl ?_
    refine V_iload_n hc d_X1_change_14 rfl 2 rfl ?_
    refine V_callVv (As := [.int x1, .int x2]) (st := []) hc TS_good NS_nest (fun _ h => h) (c_X1_takeLock l K cA D a x1 x2 u2) k_301 k_4 k_288 k_286 k_287 1 eX_1 rfl q_X1_takeLock (by decide) (Nat.zero_le _) (Nat.zero_le _) rfl (Nat.le_of_ble_eq_true rfl) d_X1_change_15 hw (fun r3 u4 hw => ?_)
    try dsimp only at hw
    refine V_aload_n hc d_X1_change_18 rfl 0 rfl ?_
    refine V_get (v := .ref (a 9)) hc uin_X1 1 eX_1 rfl 3 (by decide) k_76 rfl d_X1_change_19 ?_
    refine V_iload_n hc d_X1_change_22 rfl 2 rfl ?_
    refine V_lload_n hc d_X1_change_23 rfl 3 rfl ?_
    obtain ⟨hi, hw⟩ := hw
    refine V_last hc 9 1 eX_9 rfl hi sX_9 d_X1_change_24 ?_
    refine V_aload_n hc d_X1_change_25 rfl 0 rfl ?_
    refine V_get (v := .ref (a 5)) hc uin_X1 1 eX_1 rfl 0 (by decide) k_73 rfl d_X1_change_26 ?_
    refine V_iconst (v := 0) hc d_X1_change_29 (by decide) ?_
    refine V_iload_n hc d_X1_change_30 rfl 1 rfl ?_
    refine V_iload_n hc d_X1_change_31 rfl 2 rfl ?_
    refine V_lload_n hc d_X1_change_32 rfl 3 rfl ?_
    refine V_callVi (As := [.int 0, .int x1, .int x2, .long x3]) (st := []) hc TS_good NS_nest (fun _ h => h) (c_X5_write l K cA D a 0 x1 x2 x3 (s_L u4 1 (x2 : Int32).toNatClampNeg x3)) k_302 k_3 k_305 k_303 k_304 5 eX_5 rfl q_X5_write (by decide) (Nat.zero_le _) (Nat.zero_le _) rfl (Nat.le_of_ble_eq_true rfl) d_X1_change_33 hw (fun r5 u6 hw => ?_)
    try dsimp only at hw
    refine V_pop hc d_X1_change_36 rfl ?_
    refine V_iconst (v := 0) hc d_X1_change_37 (by decide) ?_
    exact V_iret hc NS_nest hr hw d_X1_change_38
  · replace hw := hw.2 h
    refine V_bipush (v := (-4)) hc d_X1_change_9 (by decide) ?_
    exact V_iret hc NS_nest hr hw d_X1_change_11
def w_X0_put (K : Nat) (x1 : Int32) (x2 : Int32) (x3 : Int32) (x4 : Int32) (z : St) (Q : Int32 → St → Prop) : Prop :=
  w_X0_isGroup K x3 z (fun r1 u2 => ((¬ r1 = 0 → w_X0_refusalOf K x1 x2 z (fun r3 u4 => ((r3 = 0 → w_X0_rowOf K x3 x4 u4 (fun r5 u6 => w_X1_change K x1 x2 r5 u4 (fun r7 u8 => Q r7 u8))) ∧ (¬ r3 = 0 → Q r3 u4)))) ∧ (r1 = 0 → Q (-2) z)))
set_option maxHeartbeats 4000000 in
set_option maxRecDepth 100000 in
theorem c_X0_put (l : Launch) (K : Nat) (cA : Nat → ClassId) (D : va_G) (a : Nat → Nat) (x1 : Int32) (x2 : Int32) (x3 : Int32) (x4 : Int32) (z : St) : Ct l NS CL D (tyX cA) 23 a (WX K cA a) mkI y_X0_put (.code y_X0_put b_X0_put 6 (some .int) :: TS) { frames := 3, cells := 0, slots := 0, locals := 65 } [.ref (a 0), .int x1, .int x2, .int x3, .int x4] z (w_X0_put K x1 x2 x3 x4 z) := by
  refine Ct.of (by decide) (Nat.le_of_ble_eq_true rfl) adX ?_
  intro Q p e s m args below meth c hc hr hw
  unfold w_X0_put at hw
  refine V_st _ [(0, .ref (a 0)), (1, .int x1), (2, .int x2), (3, .int x3), (4, .int x4)] _ rfl rfl rfl ?_
  refine V_iload_n hc d_X0_put_0 rfl 3 rfl ?_
  refine V_callSi (b := 0) (As := [.int x3]) (st := []) hc TS_good NS_nest (fun _ h => Or.inr h) (c_X0_isGroup l K cA D a x3 z) k_293 k_1 k_295 k_294 q_X0_isGroup (by decide) (Nat.zero_le _) (Nat.zero_le _) rfl (Nat.le_of_ble_eq_true rfl) d_X0_put_1 hw (fun r1 u2 hw => ?_)
  try dsimp only at hw
  refine V_if_ne (tgt := 10) hc d_X0_put_4 rfl (fun h => ?_) (fun h => ?_)
  · replace hw := hw.1 h
    refine V_aload_n hc d_X0_put_10 rfl 0 rfl ?_
    refine V_iload_n hc d_X0_put_11 rfl 1 rfl ?_
    refine V_iload_n hc d_X0_put_12 rfl 2 rfl ?_
    refine V_callVi (As := [.int x1, .int x2]) (st := []) hc TS_good NS_nest (fun _ h => h) (c_X0_refusalOf l K cA D a x1 x2 z) k_265 k_1 k_268 k_267 kp_X0_refusalOf 0 eX_0 rfl q_X0_refusalOf (by decide) (Nat.zero_le _) (Nat.zero_le _) rfl (Nat.le_of_ble_eq_true rfl) d_X0_put_13 hw (fun r3 u4 hw => ?_)
    try dsimp only at hw
    refine V_istore hc [(5, .int r3), (0, .ref (a 0)), (1, .int x1), (2, .int x2), (3, .int x3), (4, .int x4)] d_X0_put_16 (by decide) rfl ?_
    refine V_iload hc d_X0_put_18 0 rfl ?_
    refine V_if_eq (tgt := 28) hc d_X0_put_20 rfl (fun h => ?_) (fun h => ?_)
    · replace hw := hw.1 h
      refine V_aload_n hc d_X0_put_28 rfl 1 rfl ?_
      refine V_get (v := .ref (a 1)) hc uin_X0 0 eX_0 rfl 1 (by decide) k_234 rfl d_X0_put_29 ?_
      refine V_iload_n hc d_X0_put_32 rfl 2 rfl ?_
      refine V_iload_n hc d_X0_put_33 rfl 3 rfl ?_
      refine V_iload_n hc d_X0_put_34 rfl 4 rfl ?_
      refine V_iload hc d_X0_put_35 5 rfl ?_
      refine V_callSl (b := 0) (As := [.int x3, .int x4]) (st := [.int x2, .int x1, .ref (a 1)]) hc TS_good NS_nest (fun _ h => Or.inr h) (c_X0_rowOf l K cA D a x3 x4 u4) k_296 k_1 k_70 k_69 q_X0_rowOf (by decide) (Nat.zero_le _) (Nat.zero_le _) rfl (Nat.le_of_ble_eq_true rfl) d_X0_put_37 hw (fun r5 u6 hw => ?_)
      try dsimp only at hw
      refine V_callVi (As := [.int x1, .int x2, .long r5]) (st := []) hc TS_good NS_nest (fun _ h => h) (c_X1_change l K cA D a x1 x2 r5 u4) k_297 k_4 k_300 k_298 k_299 1 eX_1 rfl q_X1_change (by decide) (Nat.zero_le _) (Nat.zero_le _) rfl (Nat.le_of_ble_eq_true rfl) d_X0_put_40 hw (fun r7 u8 hw => ?_)
      try dsimp only at hw
      exact V_iret hc NS_nest hr hw d_X0_put_43
    · replace hw := hw.2 h
      refine V_iload hc d_X0_put_23 0 rfl ?_
      refine V_goto (tgt := 43) hc d_X0_put_25 rfl ?_
      exact V_iret hc NS_nest hr hw d_X0_put_43
  · replace hw := hw.2 h
    refine V_bipush (v := (-2)) hc d_X0_put_7 (by decide) ?_
    exact V_iret hc NS_nest hr hw d_X0_put_9
def w_X1_seenBy (K : Nat) (x1 : Int32) (x2 : Int32) (z : St) (Q : Int64 → St → Prop) : Prop :=
  (vp_in x2 K ∧ ((¬ (g_A z 0 (x2 : Int32).toNatClampNeg) = x1 → (vp_in x2 K ∧ Q (g_L z 0 (x2 : Int32).toNatClampNeg) z)) ∧ ((g_A z 0 (x2 : Int32).toNatClampNeg) = x1 → (vp_in x2 K ∧ (((lg_cmp (g_L z 1 (x2 : Int32).toNatClampNeg) (-2)) = 0 → (vp_in x2 K ∧ Q (g_L z 0 (x2 : Int32).toNatClampNeg) z)) ∧ (¬ (lg_cmp (g_L z 1 (x2 : Int32).toNatClampNeg) (-2)) = 0 → (vp_in x2 K ∧ Q (g_L z 1 (x2 : Int32).toNatClampNeg) z)))))))
set_option maxHeartbeats 4000000 in
set_option maxRecDepth 100000 in
theorem c_X1_seenBy (l : Launch) (K : Nat) (cA : Nat → ClassId) (D : va_G) (a : Nat → Nat) (x1 : Int32) (x2 : Int32) (z : St) : Ct l NS CL D (tyX cA) 23 a (WX K cA a) mkL y_X1_seenBy (.code y_X1_seenBy b_X1_seenBy 3 (some .long) :: TS) { frames := 0, cells := 0, slots := 0, locals := 0 } [.ref (a 1), .int x1, .int x2] z (w_X1_seenBy K x1 x2 z) := by
  refine Ct.of (by decide) (Nat.le_of_ble_eq_true rfl) adX ?_
  intro Q p e s m args below meth c hc hr hw
  unfold w_X1_seenBy at hw
  refine V_st _ [(0, .ref (a 1)), (1, .int x1), (2, .int x2)] _ rfl rfl rfl ?_
  refine V_aload_n hc d_X1_seenBy_0 rfl 0 rfl ?_
  refine V_get (v := .ref (a 8)) hc uin_X1 1 eX_1 rfl 2 (by decide) k_75 rfl d_X1_seenBy_1 ?_
  refine V_iload_n hc d_X1_seenBy_4 rfl 2 rfl ?_
  obtain ⟨hi, hw⟩ := hw
  refine V_iald (x := g_A z 0 (x2 : Int32).toNatClampNeg) hc 8 0 eX_8 rfl hi rfl d_X1_seenBy_5 ?_
  refine V_iload_n hc d_X1_seenBy_6 rfl 1 rfl ?_
  refine V_icmp_ne (tgt := 32) hc d_X1_seenBy_7 rfl (fun h => ?_) (fun h => ?_)
  · replace hw := hw.1 h
    refine V_aload_n hc d_X1_seenBy_32 rfl 0 rfl ?_
    refine V_get (v := .ref (a 7)) hc uin_X1 1 eX_1 rfl 1 (by decide) k_74 rfl d_X1_seenBy_33 ?_
    refine V_iload_n hc d_X1_seenBy_36 rfl 2 rfl ?_
    obtain ⟨hi, hw⟩ := hw
    refine V_lald (x := g_L z 0 (x2 : Int32).toNatClampNeg) hc 7 1 eX_7 rfl hi rfl d_X1_seenBy_37 ?_
    exact V_lret hc NS_nest hr hw d_X1_seenBy_38
  · replace hw := hw.2 h
    refine V_aload_n hc d_X1_seenBy_10 rfl 0 rfl ?_
    refine V_get (v := .ref (a 9)) hc uin_X1 1 eX_1 rfl 3 (by decide) k_76 rfl d_X1_seenBy_11 ?_
    refine V_iload_n hc d_X1_seenBy_14 rfl 2 rfl ?_
    obtain ⟨hi, hw⟩ := hw
    refine V_lald (x := g_L z 1 (x2 : Int32).toNatClampNeg) hc 9 1 eX_9 rfl hi rfl d_X1_seenBy_15 ?_
    refine V_ldc2 (v := (-2)) hc k_72 d_X1_seenBy_16 ?_
    refine V_lcmp hc d_X1_seenBy_19 rfl ?_
    refine V_if_eq (tgt := 32) hc d_X1_seenBy_20 rfl (fun h => ?_) (fun h => ?_)
    · replace hw := hw.1 h
      refine V_aload_n hc d_X1_seenBy_32 rfl 0 rfl ?_
      refine V_get (v := .ref (a 7)) hc uin_X1 1 eX_1 rfl 1 (by decide) k_74 rfl d_X1_seenBy_33 ?_
      refine V_iload_n hc d_X1_seenBy_36 rfl 2 rfl ?_
      obtain ⟨hi, hw⟩ := hw
      refine V_lald (x := g_L z 0 (x2 : Int32).toNatClampNeg) hc 7 1 eX_7 rfl hi rfl d_X1_seenBy_37 ?_
      exact V_lret hc NS_nest hr hw d_X1_seenBy_38
    · replace hw := hw.2 h
      refine V_aload_n hc d_X1_seenBy_23 rfl 0 rfl ?_
      refine V_get (v := .ref (a 9)) hc uin_X1 1 eX_1 rfl 3 (by decide) k_76 rfl d_X1_seenBy_24 ?_
      refine V_iload_n hc d_X1_seenBy_27 rfl 2 rfl ?_
      obtain ⟨hi, hw⟩ := hw
      refine V_lald (x := g_L z 1 (x2 : Int32).toNatClampNeg) hc 9 1 eX_9 rfl hi rfl d_X1_seenBy_28 ?_
      refine V_goto (tgt := 38) hc d_X1_seenBy_29 rfl ?_
      exact V_lret hc NS_nest hr hw d_X1_seenBy_38
def w_X0_remove (K : Nat) (x1 : Int32) (x2 : Int32) (z : St) (Q : Int32 → St → Prop) : Prop :=
  w_X0_refusalOf K x1 x2 z (fun r1 u2 => ((r1 = 0 → w_X1_seenBy K x1 x2 u2 (fun r3 u4 => ((¬ (lg_cmp r3 (-1)) = 0 → w_X1_change K x1 x2 (-1) u4 (fun r5 u6 => Q r5 u6)) ∧ ((lg_cmp r3 (-1)) = 0 → Q (-2) u4)))) ∧ (¬ r1 = 0 → Q r1 u2)))
set_option maxHeartbeats 4000000 in
set_option maxRecDepth 100000 in
theorem c_X0_remove (l : Launch) (K : Nat) (cA : Nat → ClassId) (D : va_G) (a : Nat → Nat) (x1 : Int32) (x2 : Int32) (z : St) : Ct l NS CL D (tyX cA) 23 a (WX K cA a) mkI y_X0_remove (.code y_X0_remove b_X0_remove 4 (some .int) :: TS) { frames := 3, cells := 0, slots := 0, locals := 65 } [.ref (a 0), .int x1, .int x2] z (w_X0_remove K x1 x2 z) := by
  refine Ct.of (by decide) (Nat.le_of_ble_eq_true rfl) adX ?_
  intro Q p e s m args below meth c hc hr hw
  unfold w_X0_remove at hw
  refine V_st _ [(0, .ref (a 0)), (1, .int x1), (2, .int x2)] _ rfl rfl rfl ?_
  refine V_aload_n hc d_X0_remove_0 rfl 0 rfl ?_
  refine V_iload_n hc d_X0_remove_1 rfl 1 rfl ?_
  refine V_iload_n hc d_X0_remove_2 rfl 2 rfl ?_
  refine V_callVi (As := [.int x1, .int x2]) (st := []) hc TS_good NS_nest (fun _ h => h) (c_X0_refusalOf l K cA D a x1 x2 z) k_265 k_1 k_268 k_267 kp_X0_refusalOf 0 eX_0 rfl q_X0_refusalOf (by decide) (Nat.zero_le _) (Nat.zero_le _) rfl (Nat.le_of_ble_eq_true rfl) d_X0_remove_3 hw (fun r1 u2 hw => ?_)
  try dsimp only at hw
  refine V_istore_n hc [(3, .int r1), (0, .ref (a 0)), (1, .int x1), (2, .int x2)] d_X0_remove_6 rfl (by decide) rfl ?_
  refine V_iload_n hc d_X0_remove_7 rfl 0 rfl ?_
  refine V_if_eq (tgt := 13) hc d_X0_remove_8 rfl (fun h => ?_) (fun h => ?_)
  · replace hw := hw.1 h
    refine V_aload_n hc d_X0_remove_13 rfl 1 rfl ?_
    refine V_get (v := .ref (a 1)) hc uin_X0 0 eX_0 rfl 1 (by decide) k_234 rfl d_X0_remove_14 ?_
    refine V_iload_n hc d_X0_remove_17 rfl 2 rfl ?_
    refine V_iload_n hc d_X0_remove_18 rfl 3 rfl ?_
    refine V_callVl (As := [.int x1, .int x2]) (st := []) hc TS_good NS_nest (fun _ h => h) (c_X1_seenBy l K cA D a x1 x2 u2) k_310 k_4 k_313 k_311 k_312 1 eX_1 rfl q_X1_seenBy (by decide) (Nat.zero_le _) (Nat.zero_le _) rfl (Nat.le_of_ble_eq_true rfl) d_X0_remove_19 hw (fun r3 u4 hw => ?_)
    try dsimp only at hw
    refine V_ldc2 (v := (-1)) hc k_314 d_X0_remove_22 ?_
    refine V_lcmp hc d_X0_remove_25 rfl ?_
    refine V_if_ne (tgt := 34) hc d_X0_remove_26 rfl (fun h => ?_) (fun h => ?_)
    · replace hw := hw.1 h
      refine V_aload_n hc d_X0_remove_34 rfl 1 rfl ?_
      refine V_get (v := .ref (a 1)) hc uin_X0 0 eX_0 rfl 1 (by decide) k_234 rfl d_X0_remove_35 ?_
      refine V_iload_n hc d_X0_remove_38 rfl 2 rfl ?_
      refine V_iload_n hc d_X0_remove_39 rfl 3 rfl ?_
      refine V_ldc2 (v := (-1)) hc k_314 d_X0_remove_40 ?_
      refine V_callVi (As := [.int x1, .int x2, .long (-1)]) (st := []) hc TS_good NS_nest (fun _ h => h) (c_X1_change l K cA D a x1 x2 (-1) u4) k_297 k_4 k_300 k_298 k_299 1 eX_1 rfl q_X1_change (by decide) (Nat.zero_le _) (Nat.zero_le _) rfl (Nat.le_of_ble_eq_true rfl) d_X0_remove_43 hw (fun r5 u6 hw => ?_)
      try dsimp only at hw
      exact V_iret hc NS_nest hr hw d_X0_remove_46
    · replace hw := hw.2 h
      refine V_bipush (v := (-2)) hc d_X0_remove_29 (by decide) ?_
      refine V_goto (tgt := 46) hc d_X0_remove_31 rfl ?_
      exact V_iret hc NS_nest hr hw d_X0_remove_46
  · replace hw := hw.2 h
    refine V_iload_n hc d_X0_remove_11 rfl 0 rfl ?_
    exact V_iret hc NS_nest hr hw d_X0_remove_12
def w_X1_loosen (K : Nat) (x1 : Int32) (x2 : Int32) (z : St) (Q : Unit → St → Prop) : Prop :=
  ((x2 = 0 → (vp_in x1 K ∧ (vp_in x1 K ∧ Q () (s_A (s_L z 1 (x1 : Int32).toNatClampNeg (-2)) 0 (x1 : Int32).toNatClampNeg (-1))))) ∧ (¬ x2 = 0 → (vp_in x1 K ∧ (((lg_cmp (g_L z 1 (x1 : Int32).toNatClampNeg) (-2)) = 0 → (vp_in x1 K ∧ (vp_in x1 K ∧ Q () (s_A (s_L z 1 (x1 : Int32).toNatClampNeg (-2)) 0 (x1 : Int32).toNatClampNeg (-1))))) ∧ (¬ (lg_cmp (g_L z 1 (x1 : Int32).toNatClampNeg) (-2)) = 0 → (vp_in x1 K ∧ (vp_in x1 K ∧ (vp_in x1 K ∧ (vp_in x1 K ∧ Q () (s_A (s_L (s_L z 0 (x1 : Int32).toNatClampNeg (g_L z 1 (x1 : Int32).toNatClampNeg)) 1 (x1 : Int32).toNatClampNeg (-2)) 0 (x1 : Int32).toNatClampNeg (-1)))))))))))
set_option maxHeartbeats 4000000 in
set_option maxRecDepth 100000 in
theorem c_X1_loosen (l : Launch) (K : Nat) (cA : Nat → ClassId) (D : va_G) (a : Nat → Nat) (x1 : Int32) (x2 : Int32) (z : St) : Ct l NS CL D (tyX cA) 23 a (WX K cA a) mkV y_X1_loosen (.code y_X1_loosen b_X1_loosen 3 none :: TS) { frames := 0, cells := 0, slots := 0, locals := 0 } [.ref (a 1), .int x1, .int x2] z (w_X1_loosen K x1 x2 z) := by
  refine Ct.of (by decide) (Nat.le_of_ble_eq_true rfl) adX ?_
  intro Q p e s m args below meth c hc hr hw
  unfold w_X1_loosen at hw
  refine V_st _ [(0, .ref (a 1)), (1, .int x1), (2, .int x2)] _ rfl rfl rfl ?_
  refine V_iload_n hc d_X1_loosen_0 rfl 2 rfl ?_
  refine V_if_eq (tgt := 29) hc d_X1_loosen_1 rfl (fun h => ?_) (fun h => ?_)
  · replace hw := hw.1 h
    refine V_aload_n hc d_X1_loosen_29 rfl 0 rfl ?_
    refine V_get (v := .ref (a 9)) hc uin_X1 1 eX_1 rfl 3 (by decide) k_76 rfl d_X1_loosen_30 ?_
    refine V_iload_n hc d_X1_loosen_33 rfl 1 rfl ?_
    refine V_ldc2 (v := (-2)) hc k_72 d_X1_loosen_34 ?_
    obtain ⟨hi, hw⟩ := hw
    refine V_last hc 9 1 eX_9 rfl hi sX_9 d_X1_loosen_37 ?_
    refine V_aload_n hc d_X1_loosen_38 rfl 0 rfl ?_
    refine V_get (v := .ref (a 8)) hc uin_X1 1 eX_1 rfl 2 (by decide) k_75 rfl d_X1_loosen_39 ?_
    refine V_iload_n hc d_X1_loosen_42 rfl 1 rfl ?_
    refine V_iconst (v := (-1)) hc d_X1_loosen_43 (by decide) ?_
    obtain ⟨hi, hw⟩ := hw
    refine V_iast hc 8 0 eX_8 rfl hi sX_8 d_X1_loosen_44 ?_
    exact V_vret hc NS_nest hr hw d_X1_loosen_45
  · replace hw := hw.2 h
    refine V_aload_n hc d_X1_loosen_4 rfl 0 rfl ?_
    refine V_get (v := .ref (a 9)) hc uin_X1 1 eX_1 rfl 3 (by decide) k_76 rfl d_X1_loosen_5 ?_
    refine V_iload_n hc d_X1_loosen_8 rfl 1 rfl ?_
    obtain ⟨hi, hw⟩ := hw
    refine V_lald (x := g_L z 1 (x1 : Int32).toNatClampNeg) hc 9 1 eX_9 rfl hi rfl d_X1_loosen_9 ?_
    refine V_ldc2 (v := (-2)) hc k_72 d_X1_loosen_10 ?_
    refine V_lcmp hc d_X1_loosen_13 rfl ?_
    refine V_if_eq (tgt := 29) hc d_X1_loosen_14 rfl (fun h => ?_) (fun h => ?_)
    · replace hw := hw.1 h
      refine V_aload_n hc d_X1_loosen_29 rfl 0 rfl ?_
      refine V_get (v := .ref (a 9)) hc uin_X1 1 eX_1 rfl 3 (by decide) k_76 rfl d_X1_loosen_30 ?_
      refine V_iload_n hc d_X1_loosen_33 rfl 1 rfl ?_
      refine V_ldc2 (v := (-2)) hc k_72 d_X1_loosen_34 ?_
      obtain ⟨hi, hw⟩ := hw
      refine V_last hc 9 1 eX_9 rfl hi sX_9 d_X1_loosen_37 ?_
      refine V_aload_n hc d_X1_loosen_38 rfl 0 rfl ?_
      refine V_get (v := .ref (a 8)) hc uin_X1 1 eX_1 rfl 2 (by decide) k_75 rfl d_X1_loosen_39 ?_
      refine V_iload_n hc d_X1_loosen_42 rfl 1 rfl ?_
      refine V_iconst (v := (-1)) hc d_X1_loosen_43 (by decide) ?_
      obtain ⟨hi, hw⟩ := hw
      refine V_iast hc 8 0 eX_8 rfl hi sX_8 d_X1_loosen_44 ?_
      exact V_vret hc NS_nest hr hw d_X1_loosen_45
    · replace hw := hw.2 h
      refine V_aload_n hc d_X1_loosen_17 rfl 0 rfl ?_
      refine V_get (v := .ref (a 7)) hc uin_X1 1 eX_1 rfl 1 (by decide) k_74 rfl d_X1_loosen_18 ?_
      refine V_iload_n hc d_X1_loosen_21 rfl 1 rfl ?_
      refine V_aload_n hc d_X1_loosen_22 rfl 0 rfl ?_
      refine V_get (v := .ref (a 9)) hc uin_X1 1 eX_1 rfl 3 (by decide) k_76 rfl d_X1_loosen_23 ?_
      refine V_iload_n hc d_X1_loosen_26 rfl 1 rfl ?_
      obtain ⟨hi, hw⟩ := hw
      refine V_lald (x := g_L z 1 (x1 : Int32).toNatClampNeg) hc 9 1 eX_9 rfl hi rfl d_X1_loosen_27 ?_
      obtain ⟨hi, hw⟩ := hw
      refine V_last hc 7 1 eX_7 rfl hi sX_7 d_X1_loosen_28 ?_
      refine V_aload_n hc d_X1_loosen_29 rfl 0 rfl ?_
      refine V_get (v := .ref (a 9)) hc uin_X1 1 eX_1 rfl 3 (by decide) k_76 rfl d_X1_loosen_30 ?_
      refine V_iload_n hc d_X1_loosen_33 rfl 1 rfl ?_
      refine V_ldc2 (v := (-2)) hc k_72 d_X1_loosen_34 ?_
      obtain ⟨hi, hw⟩ := hw
      refine V_last hc 9 1 eX_9 rfl hi sX_9 d_X1_loosen_37 ?_
      refine V_aload_n hc d_X1_loosen_38 rfl 0 rfl ?_
      refine V_get (v := .ref (a 8)) hc uin_X1 1 eX_1 rfl 2 (by decide) k_75 rfl d_X1_loosen_39 ?_
      refine V_iload_n hc d_X1_loosen_42 rfl 1 rfl ?_
      refine V_iconst (v := (-1)) hc d_X1_loosen_43 (by decide) ?_
      obtain ⟨hi, hw⟩ := hw
      refine V_iast hc 8 0 eX_8 rfl hi sX_8 d_X1_loosen_44 ?_
      exact V_vret hc NS_nest hr hw d_X1_loosen_45
def w_X1_close_18 (K : Nat) (Q : Unit → St → Prop) : Nat → Int32 → St → Prop
  | 0, _, _ => False
  | n + 1, v2, z => ((g_I z 1 ≤ v2 → Q () z) ∧ (¬ g_I z 1 ≤ v2 → (vp_in (v2 + 1) 4 ∧ (vp_in v2 4 ∧ w_X1_close_18 K Q n (v2 + 1) (s_A z 1 (v2 : Int32).toNatClampNeg (g_A z 1 ((v2 + 1) : Int32).toNatClampNeg))))))
def w_X1_close (K : Nat) (x1 : Int32) (z : St) (Q : Unit → St → Prop) : Prop :=
  ((¬ x1 = (-1) → (∃ n9, w_X1_close_18 K Q n9 x1 (s_I z 1 (g_I z 1 - 1)))) ∧ (x1 = (-1) → Q () z))
set_option maxHeartbeats 4000000 in
set_option maxRecDepth 100000 in
theorem l_X1_close_18 (l : Launch) (K : Nat) (cA : Nat → ClassId) (D : va_G) (a : Nat → Nat) (Q : Unit → St → Prop) (p : Program) (e : Env) (s : State) (m : MethodId) (args : Array Value) (below : List Frame) (meth : Method) (c : Code) (hc : Cx TS NS CL D (tyX cA) p s m args meth c b_X1_close 3 y_X1_close.cls) (hr : meth.sig.returnType = none) : ∀ (n : Nat) (v2 : Int32) (z : St), w_X1_close_18 K Q n v2 z → V CL p l e { frames := 0, cells := 0, slots := 0, locals := 0 } s m args below meth c 3 D (AX 23 a s.heap.size) 0 0 (MQ below (Qg NS CL D (tyX cA) (WX K cA a) (AX 23 a s.heap.size) mkV Q) args s 0 0 (AX 23 a s.heap.size)) (WX K cA a z) 18 [(0, .ref (a 1)), (2, .int v2)] [] := by
  intro n
  induction n with
  | zero =>
    intro v2 z hw
    exact hw.elim
  | succ n ih =>
    intro v2 z hw
    unfold w_X1_close_18 at hw
    refine V_iload_n hc d_X1_close_18 rfl 1 rfl ?_
    refine V_aload_n hc d_X1_close_19 rfl 0 rfl ?_
    refine V_get (v := .int (g_I z 1)) hc uin_X1 1 eX_1 rfl 5 (by decide) k_78 rfl d_X1_close_20 ?_
    refine V_icmp_ge (tgt := 46) hc d_X1_close_23 rfl (fun h => ?_) (fun h => ?_)
    · replace hw := hw.1 h
      exact V_vret hc NS_nest hr hw d_X1_close_46
    · replace hw := hw.2 h
      refine V_aload_n hc d_X1_close_26 rfl 0 rfl ?_
      refine V_get (v := .ref (a 10)) hc uin_X1 1 eX_1 rfl 4 (by decide) k_77 rfl d_X1_close_27 ?_
      refine V_iload_n hc d_X1_close_30 rfl 1 rfl ?_
      refine V_aload_n hc d_X1_close_31 rfl 0 rfl ?_
      refine V_get (v := .ref (a 10)) hc uin_X1 1 eX_1 rfl 4 (by decide) k_77 rfl d_X1_close_32 ?_
      refine V_iload_n hc d_X1_close_35 rfl 1 rfl ?_
      refine V_iconst (v := 1) hc d_X1_close_36 (by decide) ?_
      refine V_iadd hc d_X1_close_37 rfl ?_
      obtain ⟨hi, hw⟩ := hw
      refine V_iald (x := g_A z 1 ((v2 + 1) : Int32).toNatClampNeg) hc 10 0 eX_10 rfl hi rfl d_X1_close_38 ?_
      obtain ⟨hi, hw⟩ := hw
      refine V_iast hc 10 0 eX_10 rfl hi sX_10 d_X1_close_39 ?_
      refine V_iinc (v := (v2 + 1)) hc [(2, .int (v2 + 1)), (0, .ref (a 1))] d_X1_close_40 1 rfl (by rfl) (by decide) rfl ?_
      refine V_goto (tgt := 18) hc d_X1_close_43 rfl ?_
      refine V_sub [1, 0] [(0, .ref (a 1)), (2, .int (v2 + 1))] rfl ?_
      exact ih (v2 + 1) (s_A z 1 (v2 : Int32).toNatClampNeg (g_A z 1 ((v2 + 1) : Int32).toNatClampNeg)) hw
set_option maxHeartbeats 4000000 in
set_option maxRecDepth 100000 in
theorem c_X1_close (l : Launch) (K : Nat) (cA : Nat → ClassId) (D : va_G) (a : Nat → Nat) (x1 : Int32) (z : St) : Ct l NS CL D (tyX cA) 23 a (WX K cA a) mkV y_X1_close (.code y_X1_close b_X1_close 3 none :: TS) { frames := 0, cells := 0, slots := 0, locals := 0 } [.ref (a 1), .int x1] z (w_X1_close K x1 z) := by
  refine Ct.of (by decide) (Nat.le_of_ble_eq_true rfl) adX ?_
  intro Q p e s m args below meth c hc hr hw
  unfold w_X1_close at hw
  refine V_st _ [(0, .ref (a 1)), (1, .int x1)] _ rfl rfl rfl ?_
  refine V_iload_n hc d_X1_close_0 rfl 1 rfl ?_
  refine V_iconst (v := (-1)) hc d_X1_close_1 (by decide) ?_
  refine V_icmp_ne (tgt := 6) hc d_X1_close_2 rfl (fun h => ?_) (fun h => ?_)
  · replace hw := hw.1 h
    refine V_aload_n hc d_X1_close_6 rfl 0 rfl ?_
    refine V_dup hc d_X1_close_7 rfl ?_
    refine V_get (v := .int (g_I z 1)) hc uin_X1 1 eX_1 rfl 5 (by decide) k_78 rfl d_X1_close_8 ?_
    refine V_iconst (v := 1) hc d_X1_close_11 (by decide) ?_
    refine V_isub hc d_X1_close_12 rfl ?_
    refine V_put (ty := .int) hc uin_X1 1 eX_1 rfl 5 (by decide) t_X1 t_X1_ok n_X1 k_78 rfl (by decide +kernel) rfl rfl (Nat.le_of_ble_eq_true rfl) iX_1 d_X1_close_13 ?_
    refine V_iload_n hc d_X1_close_16 rfl 1 rfl ?_
    refine V_istore_n hc [(2, .int x1), (0, .ref (a 1)), (1, .int x1)] d_X1_close_17 rfl (by decide) rfl ?_
    obtain ⟨n9, hw⟩ := hw
    refine V_sub [1, 0] [(0, .ref (a 1)), (2, .int x1)] rfl ?_
    exact l_X1_close_18 l K cA D a Q p e s m args below meth c hc hr n9 x1 (s_I z 1 (g_I z 1 - 1)) hw
  · replace hw := hw.2 h
    exact V_vret hc NS_nest hr hw d_X1_close_5
def w_X1_finish_2 (K : Nat) (Q : Int32 → St → Prop) : Nat → Int32 → Int32 → Int32 → St → Prop
  | 0, _, _, _, _ => False
  | n + 1, v1, v2, v3, z => (((Int32.ofNat K) ≤ v3 → w_X1_slotOf K v1 z (fun r1 u2 => w_X1_close K r1 u2 (fun r3 u4 => ((v2 = 0 → w_X5_write K 2 v1 (-1) (-1) u4 (fun r5 u6 => Q r5 u6)) ∧ (¬ v2 = 0 → w_X5_write K 1 v1 (-1) (-1) u4 (fun r7 u8 => Q r7 u8)))))) ∧ (¬ (Int32.ofNat K) ≤ v3 → (vp_in v3 K ∧ ((¬ (g_A z 0 (v3 : Int32).toNatClampNeg) = v1 → w_X1_finish_2 K Q n v1 v2 (v3 + 1) z) ∧ ((g_A z 0 (v3 : Int32).toNatClampNeg) = v1 → w_X1_loosen K v3 v2 z (fun r9 u10 => w_X1_finish_2 K Q n v1 v2 (v3 + 1) u10))))))
def w_X1_finish (K : Nat) (x1 : Int32) (x2 : Int32) (z : St) (Q : Int32 → St → Prop) : Prop :=
  (∃ n9, w_X1_finish_2 K Q n9 x1 x2 0 z)
set_option maxHeartbeats 4000000 in
set_option maxRecDepth 100000 in
theorem l_X1_finish_2 (l : Launch) (K : Nat) (cA : Nat → ClassId) (D : va_G) (a : Nat → Nat) (Q : Int32 → St → Prop) (p : Program) (e : Env) (s : State) (m : MethodId) (args : Array Value) (below : List Frame) (meth : Method) (c : Code) (hc : Cx TS NS CL D (tyX cA) p s m args meth c b_X1_finish 4 y_X1_finish.cls) (hr : meth.sig.returnType = (some .int)) : ∀ (n : Nat) (v1 : Int32) (v2 : Int32) (v3 : Int32) (z : St), w_X1_finish_2 K Q n v1 v2 v3 z → V CL p l e { frames := 1, cells := 0, slots := 0, locals := 25 } s m args below meth c 4 D (AX 23 a s.heap.size) 0 0 (MQ below (Qg NS CL D (tyX cA) (WX K cA a) (AX 23 a s.heap.size) mkI Q) args s 0 0 (AX 23 a s.heap.size)) (WX K cA a z) 2 [(0, .ref (a 1)), (1, .int v1), (2, .int v2), (3, .int v3)] [] := by
  intro n
  induction n with
  | zero =>
    intro v1 v2 v3 z hw
    exact hw.elim
  | succ n ih =>
    intro v1 v2 v3 z hw
    unfold w_X1_finish_2 at hw
    refine V_iload_n hc d_X1_finish_2 rfl 3 rfl ?_
    refine V_aload_n hc d_X1_finish_3 rfl 0 rfl ?_
    refine V_get (v := .ref (a 7)) hc uin_X1 1 eX_1 rfl 1 (by decide) k_74 rfl d_X1_finish_4 ?_
    refine V_alen (v := (Int32.ofNat K)) hc 7 1 eX_7 rfl rfl d_X1_finish_7 ?_
    refine V_icmp_ge (tgt := 33) hc d_X1_finish_8 rfl (fun h => ?_) (fun h => ?_)
    · replace hw := hw.1 h
      refine V_aload_n hc d_X1_finish_33 rfl 0 rfl ?_
      refine V_aload_n hc d_X1_finish_34 rfl 0 rfl ?_
      refine V_iload_n hc d_X1_finish_35 rfl 1 rfl ?_
      refine V_callVi (As := [.int v1]) (st := [.ref (a 1)]) hc TS_good NS_nest (fun _ h => h) (c_X1_slotOf l K cA D a v1 z) k_273 k_4 k_276 k_275 kp_X1_slotOf 1 eX_1 rfl q_X1_slotOf (by decide) (Nat.zero_le _) (Nat.zero_le _) rfl (Nat.le_of_ble_eq_true rfl) d_X1_finish_36 hw (fun r1 u2 hw => ?_)
      try dsimp only at hw
      refine V_callVv (As := [.int r1]) (st := []) hc TS_good NS_nest (fun _ h => h) (c_X1_close l K cA D a r1 u2) k_327 k_4 k_330 k_329 kp_X1_close 1 eX_1 rfl q_X1_close (by decide) (Nat.zero_le _) (Nat.zero_le _) rfl (Nat.le_of_ble_eq_true rfl) d_X1_finish_39 hw (fun r3 u4 hw => ?_)
      try dsimp only at hw
      refine V_aload_n hc d_X1_finish_42 rfl 0 rfl ?_
      refine V_get (v := .ref (a 5)) hc uin_X1 1 eX_1 rfl 0 (by decide) k_73 rfl d_X1_finish_43 ?_
      refine V_iload_n hc d_X1_finish_46 rfl 2 rfl ?_
      refine V_if_eq (tgt := 54) hc d_X1_finish_47 rfl (fun h => ?_) (fun h => ?_)
      · replace hw := hw.1 h
        refine V_iconst (v := 2) hc d_X1_finish_54 (by decide) ?_
        refine V_iload_n hc d_X1_finish_55 rfl 1 rfl ?_
        refine V_iconst (v := (-1)) hc d_X1_finish_56 (by decide) ?_
        refine V_ldc2 (v := (-1)) hc k_331 d_X1_finish_57 ?_
        refine V_callVi (As := [.int 2, .int v1, .int (-1), .long (-1)]) (st := []) hc TS_good NS_nest (fun _ h => h) (c_X5_write l K cA D a 2 v1 (-1) (-1) u4) k_302 k_3 k_305 k_303 k_304 5 eX_5 rfl q_X5_write (by decide) (Nat.zero_le _) (Nat.zero_le _) rfl (Nat.le_of_ble_eq_true rfl) d_X1_finish_60 hw (fun r5 u6 hw => ?_)
        try dsimp only at hw
        exact V_iret hc NS_nest hr hw d_X1_finish_63
      · replace hw := hw.2 h
        refine V_iconst (v := 1) hc d_X1_finish_50 (by decide) ?_
        refine V_goto (tgt := 55) hc d_X1_finish_51 rfl ?_
        refine V_iload_n hc d_X1_finish_55 rfl 1 rfl ?_
        refine V_iconst (v := (-1)) hc d_X1_finish_56 (by decide) ?_
        refine V_ldc2 (v := (-1)) hc k_331 d_X1_finish_57 ?_
        refine V_callVi (As := [.int 1, .int v1, .int (-1), .long (-1)]) (st := []) hc TS_good NS_nest (fun _ h => h) (c_X5_write l K cA D a 1 v1 (-1) (-1) u4) k_302 k_3 k_305 k_303 k_304 5 eX_5 rfl q_X5_write (by decide) (Nat.zero_le _) (Nat.zero_le _) rfl (Nat.le_of_ble_eq_true rfl) d_X1_finish_60 hw (fun r7 u8 hw => ?_)
        try dsimp only at hw
        exact V_iret hc NS_nest hr hw d_X1_finish_63
    · replace hw := hw.2 h
      refine V_aload_n hc d_X1_finish_11 rfl 0 rfl ?_
      refine V_get (v := .ref (a 8)) hc uin_X1 1 eX_1 rfl 2 (by decide) k_75 rfl d_X1_finish_12 ?_
      refine V_iload_n hc d_X1_finish_15 rfl 3 rfl ?_
      obtain ⟨hi, hw⟩ := hw
      refine V_iald (x := g_A z 0 (v3 : Int32).toNatClampNeg) hc 8 0 eX_8 rfl hi rfl d_X1_finish_16 ?_
      refine V_iload_n hc d_X1_finish_17 rfl 1 rfl ?_
      refine V_icmp_ne (tgt := 27) hc d_X1_finish_18 rfl (fun h => ?_) (fun h => ?_)
      · replace hw := hw.1 h
        refine V_iinc (v := (v3 + 1)) hc [(3, .int (v3 + 1)), (0, .ref (a 1)), (1, .int v1), (2, .int v2)] d_X1_finish_27 3 rfl (by rfl) (by decide) rfl ?_
        refine V_goto (tgt := 2) hc d_X1_finish_30 rfl ?_
        refine V_sub [1, 2, 3, 0] [(0, .ref (a 1)), (1, .int v1), (2, .int v2), (3, .int (v3 + 1))] rfl ?_
        exact ih v1 v2 (v3 + 1) z hw
      · replace hw := hw.2 h
        refine V_aload_n hc d_X1_finish_21 rfl 0 rfl ?_
        refine V_iload_n hc d_X1_finish_22 rfl 3 rfl ?_
        refine V_iload_n hc d_X1_finish_23 rfl 2 rfl ?_
        refine V_callVv (As := [.int v3, .int v2]) (st := []) hc TS_good NS_nest (fun _ h => h) (c_X1_loosen l K cA D a v3 v2 z) k_323 k_4 k_326 k_325 kp_X1_loosen 1 eX_1 rfl q_X1_loosen (by decide) (Nat.zero_le _) (Nat.zero_le _) rfl (Nat.le_of_ble_eq_true rfl) d_X1_finish_24 hw (fun r9 u10 hw => ?_)
        try dsimp only at hw
        refine V_iinc (v := (v3 + 1)) hc [(3, .int (v3 + 1)), (0, .ref (a 1)), (1, .int v1), (2, .int v2)] d_X1_finish_27 3 rfl (by rfl) (by decide) rfl ?_
        refine V_goto (tgt := 2) hc d_X1_finish_30 rfl ?_
        refine V_sub [1, 2, 3, 0] [(0, .ref (a 1)), (1, .int v1), (2, .int v2), (3, .int (v3 + 1))] rfl ?_
        exact ih v1 v2 (v3 + 1) u10 hw
set_option maxHeartbeats 4000000 in
set_option maxRecDepth 100000 in
theorem c_X1_finish (l : Launch) (K : Nat) (cA : Nat → ClassId) (D : va_G) (a : Nat → Nat) (x1 : Int32) (x2 : Int32) (z : St) : Ct l NS CL D (tyX cA) 23 a (WX K cA a) mkI y_X1_finish (.code y_X1_finish b_X1_finish 4 (some .int) :: TS) { frames := 1, cells := 0, slots := 0, locals := 25 } [.ref (a 1), .int x1, .int x2] z (w_X1_finish K x1 x2 z) := by
  refine Ct.of (by decide) (Nat.le_of_ble_eq_true rfl) adX ?_
  intro Q p e s m args below meth c hc hr hw
  unfold w_X1_finish at hw
  refine V_st _ [(0, .ref (a 1)), (1, .int x1), (2, .int x2)] _ rfl rfl rfl ?_
  refine V_iconst (v := 0) hc d_X1_finish_0 (by decide) ?_
  refine V_istore_n hc [(3, .int 0), (0, .ref (a 1)), (1, .int x1), (2, .int x2)] d_X1_finish_1 rfl (by decide) rfl ?_
  obtain ⟨n9, hw⟩ := hw
  refine V_sub [1, 2, 3, 0] [(0, .ref (a 1)), (1, .int x1), (2, .int x2), (3, .int 0)] rfl ?_
  exact l_X1_finish_2 l K cA D a Q p e s m args below meth c hc hr n9 x1 x2 0 z hw
def w_X0_end (K : Nat) (x1 : Int32) (x2 : Int32) (z : St) (Q : Int32 → St → Prop) : Prop :=
  w_X1_isOpen K x1 z (fun r1 u2 => ((r1 = 0 → Q (-2) u2) ∧ (¬ r1 = 0 → w_X1_finish K x1 x2 u2 (fun r3 u4 => Q r3 u4))))
set_option maxHeartbeats 4000000 in
set_option maxRecDepth 100000 in
theorem c_X0_end (l : Launch) (K : Nat) (cA : Nat → ClassId) (D : va_G) (a : Nat → Nat) (x1 : Int32) (x2 : Int32) (z : St) : Ct l NS CL D (tyX cA) 23 a (WX K cA a) mkI y_X0_end (.code y_X0_end b_X0_end 3 (some .int) :: TS) { frames := 2, cells := 0, slots := 0, locals := 48 } [.ref (a 0), .int x1, .int x2] z (w_X0_end K x1 x2 z) := by
  refine Ct.of (by decide) (Nat.le_of_ble_eq_true rfl) adX ?_
  intro Q p e s m args below meth c hc hr hw
  unfold w_X0_end at hw
  refine V_st _ [(0, .ref (a 0)), (1, .int x1), (2, .int x2)] _ rfl rfl rfl ?_
  refine V_aload_n hc d_X0_end_0 rfl 0 rfl ?_
  refine V_get (v := .ref (a 1)) hc uin_X0 0 eX_0 rfl 1 (by decide) k_234 rfl d_X0_end_1 ?_
  refine V_iload_n hc d_X0_end_4 rfl 1 rfl ?_
  refine V_callVi (As := [.int x1]) (st := []) hc TS_good NS_nest (fun _ h => h) (c_X1_isOpen l K cA D a x1 z) k_269 k_4 k_272 k_270 k_271 1 eX_1 rfl q_X1_isOpen (by decide) (Nat.zero_le _) (Nat.zero_le _) rfl (Nat.le_of_ble_eq_true rfl) d_X0_end_5 hw (fun r1 u2 hw => ?_)
  try dsimp only at hw
  refine V_if_eq (tgt := 23) hc d_X0_end_8 rfl (fun h => ?_) (fun h => ?_)
  · replace hw := hw.1 h
    refine V_bipush (v := (-2)) hc d_X0_end_23 (by decide) ?_
    exact V_iret hc NS_nest hr hw d_X0_end_25
  · replace hw := hw.2 h
    refine V_aload_n hc d_X0_end_11 rfl 0 rfl ?_
    refine V_get (v := .ref (a 1)) hc uin_X0 0 eX_0 rfl 1 (by decide) k_234 rfl d_X0_end_12 ?_
    refine V_iload_n hc d_X0_end_15 rfl 1 rfl ?_
    refine V_iload_n hc d_X0_end_16 rfl 2 rfl ?_
    refine V_callVi (As := [.int x1, .int x2]) (st := []) hc TS_good NS_nest (fun _ h => h) (c_X1_finish l K cA D a x1 x2 u2) k_319 k_4 k_322 k_320 k_321 1 eX_1 rfl q_X1_finish (by decide) (Nat.zero_le _) (Nat.zero_le _) rfl (Nat.le_of_ble_eq_true rfl) d_X0_end_17 hw (fun r3 u4 hw => ?_)
    try dsimp only at hw
    refine V_goto (tgt := 25) hc d_X0_end_20 rfl ?_
    exact V_iret hc NS_nest hr hw d_X0_end_25
def w_X1_inTable (K : Nat) (x1 : Int32) (z : St) (Q : Int64 → St → Prop) : Prop :=
  (vp_in x1 K ∧ Q (g_L z 0 (x1 : Int32).toNatClampNeg) z)
set_option maxHeartbeats 4000000 in
set_option maxRecDepth 100000 in
theorem c_X1_inTable (l : Launch) (K : Nat) (cA : Nat → ClassId) (D : va_G) (a : Nat → Nat) (x1 : Int32) (z : St) : Ct l NS CL D (tyX cA) 23 a (WX K cA a) mkL y_X1_inTable (.code y_X1_inTable b_X1_inTable 2 (some .long) :: TS) { frames := 0, cells := 0, slots := 0, locals := 0 } [.ref (a 1), .int x1] z (w_X1_inTable K x1 z) := by
  refine Ct.of (by decide) (Nat.le_of_ble_eq_true rfl) adX ?_
  intro Q p e s m args below meth c hc hr hw
  unfold w_X1_inTable at hw
  refine V_st _ [(0, .ref (a 1)), (1, .int x1)] _ rfl rfl rfl ?_
  refine V_aload_n hc d_X1_inTable_0 rfl 0 rfl ?_
  refine V_get (v := .ref (a 7)) hc uin_X1 1 eX_1 rfl 1 (by decide) k_74 rfl d_X1_inTable_1 ?_
  refine V_iload_n hc d_X1_inTable_4 rfl 1 rfl ?_
  obtain ⟨hi, hw⟩ := hw
  refine V_lald (x := g_L z 0 (x1 : Int32).toNatClampNeg) hc 7 1 eX_7 rfl hi rfl d_X1_inTable_5 ?_
  exact V_lret hc NS_nest hr hw d_X1_inTable_6
def w_X0_row (K : Nat) (x1 : Int32) (x2 : Int32) (z : St) (Q : Int64 → St → Prop) : Prop :=
  w_X0_isKey K x2 z (fun r1 u2 => ((¬ r1 = 0 → ((¬ x1 = (-1) → w_X1_isOpen K x1 u2 (fun r3 u4 => ((r3 = 0 → Q (-1) u4) ∧ (¬ r3 = 0 → w_X1_seenBy K x1 x2 u4 (fun r5 u6 => Q r5 u6))))) ∧ (x1 = (-1) → w_X1_inTable K x2 u2 (fun r7 u8 => Q r7 u8)))) ∧ (r1 = 0 → Q (-1) u2)))
set_option maxHeartbeats 4000000 in
set_option maxRecDepth 100000 in
theorem c_X0_row (l : Launch) (K : Nat) (cA : Nat → ClassId) (D : va_G) (a : Nat → Nat) (x1 : Int32) (x2 : Int32) (z : St) : Ct l NS CL D (tyX cA) 23 a (WX K cA a) mkL y_X0_row (.code y_X0_row b_X0_row 3 (some .long) :: TS) { frames := 2, cells := 0, slots := 0, locals := 43 } [.ref (a 0), .int x1, .int x2] z (w_X0_row K x1 x2 z) := by
  refine Ct.of (by decide) (Nat.le_of_ble_eq_true rfl) adX ?_
  intro Q p e s m args below meth c hc hr hw
  unfold w_X0_row at hw
  refine V_st _ [(0, .ref (a 0)), (1, .int x1), (2, .int x2)] _ rfl rfl rfl ?_
  refine V_aload_n hc d_X0_row_0 rfl 0 rfl ?_
  refine V_iload_n hc d_X0_row_1 rfl 2 rfl ?_
  refine V_callVi (As := [.int x2]) (st := []) hc TS_good NS_nest (fun _ h => h) (c_X0_isKey l K cA D a x2 z) k_277 k_1 k_280 k_279 kp_X0_isKey 0 eX_0 rfl q_X0_isKey (by decide) (Nat.zero_le _) (Nat.zero_le _) rfl (Nat.le_of_ble_eq_true rfl) d_X0_row_2 hw (fun r1 u2 hw => ?_)
  try dsimp only at hw
  refine V_if_ne (tgt := 12) hc d_X0_row_5 rfl (fun h => ?_) (fun h => ?_)
  · replace hw := hw.1 h
    refine V_iload_n hc d_X0_row_12 rfl 1 rfl ?_
    refine V_iconst (v := (-1)) hc d_X0_row_13 (by decide) ?_
    refine V_icmp_ne (tgt := 26) hc d_X0_row_14 rfl (fun h => ?_) (fun h => ?_)
    · replace hw := hw.1 h
      refine V_aload_n hc d_X0_row_26 rfl 0 rfl ?_
      refine V_get (v := .ref (a 1)) hc uin_X0 0 eX_0 rfl 1 (by decide) k_234 rfl d_X0_row_27 ?_
      refine V_iload_n hc d_X0_row_30 rfl 1 rfl ?_
      refine V_callVi (As := [.int x1]) (st := []) hc TS_good NS_nest (fun _ h => h) (c_X1_isOpen l K cA D a x1 u2) k_269 k_4 k_272 k_270 k_271 1 eX_1 rfl q_X1_isOpen (by decide) (Nat.zero_le _) (Nat.zero_le _) rfl (Nat.le_of_ble_eq_true rfl) d_X0_row_31 hw (fun r3 u4 hw => ?_)
      try dsimp only at hw
      refine V_if_eq (tgt := 49) hc d_X0_row_34 rfl (fun h => ?_) (fun h => ?_)
      · replace hw := hw.1 h
        refine V_ldc2 (v := (-1)) hc k_314 d_X0_row_49 ?_
        exact V_lret hc NS_nest hr hw d_X0_row_52
      · replace hw := hw.2 h
        refine V_aload_n hc d_X0_row_37 rfl 0 rfl ?_
        refine V_get (v := .ref (a 1)) hc uin_X0 0 eX_0 rfl 1 (by decide) k_234 rfl d_X0_row_38 ?_
        refine V_iload_n hc d_X0_row_41 rfl 1 rfl ?_
        refine V_iload_n hc d_X0_row_42 rfl 2 rfl ?_
        refine V_callVl (As := [.int x1, .int x2]) (st := []) hc TS_good NS_nest (fun _ h => h) (c_X1_seenBy l K cA D a x1 x2 u4) k_310 k_4 k_313 k_311 k_312 1 eX_1 rfl q_X1_seenBy (by decide) (Nat.zero_le _) (Nat.zero_le _) rfl (Nat.le_of_ble_eq_true rfl) d_X0_row_43 hw (fun r5 u6 hw => ?_)
        try dsimp only at hw
        refine V_goto (tgt := 52) hc d_X0_row_46 rfl ?_
        exact V_lret hc NS_nest hr hw d_X0_row_52
    · replace hw := hw.2 h
      refine V_aload_n hc d_X0_row_17 rfl 0 rfl ?_
      refine V_get (v := .ref (a 1)) hc uin_X0 0 eX_0 rfl 1 (by decide) k_234 rfl d_X0_row_18 ?_
      refine V_iload_n hc d_X0_row_21 rfl 2 rfl ?_
      refine V_callVl (As := [.int x2]) (st := []) hc TS_good NS_nest (fun _ h => h) (c_X1_inTable l K cA D a x2 u2) k_336 k_4 k_339 k_337 k_338 1 eX_1 rfl q_X1_inTable (by decide) (Nat.zero_le _) (Nat.zero_le _) rfl (Nat.le_of_ble_eq_true rfl) d_X0_row_22 hw (fun r7 u8 hw => ?_)
      try dsimp only at hw
      exact V_lret hc NS_nest hr hw d_X0_row_25
  · replace hw := hw.2 h
    refine V_ldc2 (v := (-1)) hc k_314 d_X0_row_8 ?_
    exact V_lret hc NS_nest hr hw d_X0_row_11
def w_X1_abortAll_5 (K : Nat) (Q : Unit → St → Prop) : Nat → Int32 → St → Prop
  | 0, _, _ => False
  | n + 1, v1, z => ((v1 ≤ 0 → Q () z) ∧ (¬ v1 ≤ 0 → (vp_in 0 4 ∧ w_X1_finish K (g_A z 1 (0 : Int32).toNatClampNeg) 0 z (fun r1 u2 => w_X1_abortAll_5 K Q n (v1 + (-1)) u2))))
def w_X1_abortAll (K : Nat)  (z : St) (Q : Unit → St → Prop) : Prop :=
  (∃ n9, w_X1_abortAll_5 K Q n9 (g_I z 1) z)
set_option maxHeartbeats 4000000 in
set_option maxRecDepth 100000 in
theorem l_X1_abortAll_5 (l : Launch) (K : Nat) (cA : Nat → ClassId) (D : va_G) (a : Nat → Nat) (Q : Unit → St → Prop) (p : Program) (e : Env) (s : State) (m : MethodId) (args : Array Value) (below : List Frame) (meth : Method) (c : Code) (hc : Cx TS NS CL D (tyX cA) p s m args meth c b_X1_abortAll 2 y_X1_abortAll.cls) (hr : meth.sig.returnType = none) : ∀ (n : Nat) (v1 : Int32) (z : St), w_X1_abortAll_5 K Q n v1 z → V CL p l e { frames := 2, cells := 0, slots := 0, locals := 48 } s m args below meth c 2 D (AX 23 a s.heap.size) 0 0 (MQ below (Qg NS CL D (tyX cA) (WX K cA a) (AX 23 a s.heap.size) mkV Q) args s 0 0 (AX 23 a s.heap.size)) (WX K cA a z) 5 [(0, .ref (a 1)), (1, .int v1)] [] := by
  intro n
  induction n with
  | zero =>
    intro v1 z hw
    exact hw.elim
  | succ n ih =>
    intro v1 z hw
    unfold w_X1_abortAll_5 at hw
    refine V_iload_n hc d_X1_abortAll_5 rfl 1 rfl ?_
    refine V_if_le (tgt := 27) hc d_X1_abortAll_6 rfl (fun h => ?_) (fun h => ?_)
    · replace hw := hw.1 h
      exact V_vret hc NS_nest hr hw d_X1_abortAll_27
    · replace hw := hw.2 h
      refine V_aload_n hc d_X1_abortAll_9 rfl 0 rfl ?_
      refine V_aload_n hc d_X1_abortAll_10 rfl 0 rfl ?_
      refine V_get (v := .ref (a 10)) hc uin_X1 1 eX_1 rfl 4 (by decide) k_77 rfl d_X1_abortAll_11 ?_
      refine V_iconst (v := 0) hc d_X1_abortAll_14 (by decide) ?_
      obtain ⟨hi, hw⟩ := hw
      refine V_iald (x := g_A z 1 (0 : Int32).toNatClampNeg) hc 10 0 eX_10 rfl hi rfl d_X1_abortAll_15 ?_
      refine V_iconst (v := 0) hc d_X1_abortAll_16 (by decide) ?_
      refine V_callVi (As := [.int (g_A z 1 (0 : Int32).toNatClampNeg), .int 0]) (st := []) hc TS_good NS_nest (fun _ h => h) (c_X1_finish l K cA D a (g_A z 1 (0 : Int32).toNatClampNeg) 0 z) k_348 k_4 k_322 k_320 k_321 1 eX_1 rfl q_X1_finish (by decide) (Nat.zero_le _) (Nat.zero_le _) rfl (Nat.le_of_ble_eq_true rfl) d_X1_abortAll_17 hw (fun r1 u2 hw => ?_)
      try dsimp only at hw
      refine V_pop hc d_X1_abortAll_20 rfl ?_
      refine V_iinc (v := (v1 + (-1))) hc [(1, .int (v1 + (-1))), (0, .ref (a 1))] d_X1_abortAll_21 1 rfl (by rfl) (by decide) rfl ?_
      refine V_goto (tgt := 5) hc d_X1_abortAll_24 rfl ?_
      refine V_sub [1, 0] [(0, .ref (a 1)), (1, .int (v1 + (-1)))] rfl ?_
      exact ih (v1 + (-1)) u2 hw
set_option maxHeartbeats 4000000 in
set_option maxRecDepth 100000 in
theorem c_X1_abortAll (l : Launch) (K : Nat) (cA : Nat → ClassId) (D : va_G) (a : Nat → Nat)  (z : St) : Ct l NS CL D (tyX cA) 23 a (WX K cA a) mkV y_X1_abortAll (.code y_X1_abortAll b_X1_abortAll 2 none :: TS) { frames := 2, cells := 0, slots := 0, locals := 48 } [.ref (a 1)] z (w_X1_abortAll K  z) := by
  refine Ct.of (by decide) (Nat.le_of_ble_eq_true rfl) adX ?_
  intro Q p e s m args below meth c hc hr hw
  unfold w_X1_abortAll at hw
  refine V_st _ [(0, .ref (a 1))] _ rfl rfl rfl ?_
  refine V_aload_n hc d_X1_abortAll_0 rfl 0 rfl ?_
  refine V_get (v := .int (g_I z 1)) hc uin_X1 1 eX_1 rfl 5 (by decide) k_78 rfl d_X1_abortAll_1 ?_
  refine V_istore_n hc [(1, .int (g_I z 1)), (0, .ref (a 1))] d_X1_abortAll_4 rfl (by decide) rfl ?_
  obtain ⟨n9, hw⟩ := hw
  refine V_sub [1, 0] [(0, .ref (a 1)), (1, .int (g_I z 1))] rfl ?_
  exact l_X1_abortAll_5 l K cA D a Q p e s m args below meth c hc hr n9 (g_I z 1) z hw
