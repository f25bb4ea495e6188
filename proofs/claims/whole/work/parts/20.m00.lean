def w_M0_isKey (K : Nat) (x1 : Int32) (z : St) (Q : Int32 → St → Prop) : Prop :=
  ((x1 < 0 → Q 0 z) ∧ (¬ x1 < 0 → ((g_I z 0 ≤ x1 → Q 0 z) ∧ (¬ g_I z 0 ≤ x1 → Q 1 z))))
set_option maxHeartbeats 4000000 in
set_option maxRecDepth 100000 in
theorem c_M0_isKey (l : Launch) (K : Nat) (cA : Nat → ClassId) (D : va_G) (a : Nat → Nat) (x1 : Int32) (z : St) : Ct l NS CL D (tyX cA) 19 a (WM K cA a) mkI y_M0_isKey (.code y_M0_isKey b_M0_isKey 2 (some .boolean) :: TS) { frames := 0, cells := 0, slots := 0, locals := 0 } [.ref (a 0), .int x1] z (w_M0_isKey K x1 z) := by
  refine Ct.of (by decide) (Nat.le_of_ble_eq_true rfl) adM ?_
  intro Q p e s m args below meth c hc hr hw
  unfold w_M0_isKey at hw
  refine V_st _ [(0, .ref (a 0)), (1, .int x1)] _ rfl rfl rfl ?_
  refine V_iload_n hc d_M0_isKey_0 rfl 1 rfl ?_
  refine V_if_lt (tgt := 16) hc d_M0_isKey_1 rfl (fun h => ?_) (fun h => ?_)
  · replace hw := hw.1 h
    refine V_iconst (v := 0) hc d_M0_isKey_16 (by decide) ?_
    exact V_zret hc NS_nest hr (by decide) hw d_M0_isKey_17
  · replace hw := hw.2 h
    refine V_iload_n hc d_M0_isKey_4 rfl 1 rfl ?_
    refine V_aload_n hc d_M0_isKey_5 rfl 0 rfl ?_
    refine V_get (v := .int (g_I z 0)) hc uin_M0 0 eM_0 rfl 0 (by decide) k_585 rfl d_M0_isKey_6 ?_
    refine V_icmp_ge (tgt := 16) hc d_M0_isKey_9 rfl (fun h => ?_) (fun h => ?_)
    · replace hw := hw.1 h
      refine V_iconst (v := 0) hc d_M0_isKey_16 (by decide) ?_
      exact V_zret hc NS_nest hr (by decide) hw d_M0_isKey_17
    · replace hw := hw.2 h
      refine V_iconst (v := 1) hc d_M0_isKey_12 (by decide) ?_
      refine V_goto (tgt := 17) hc d_M0_isKey_13 rfl ?_
      exact V_zret hc NS_nest hr (by decide) hw d_M0_isKey_17
def w_M0_lastBy_5 (K : Nat) (Q : Int32 → St → Prop) : Nat → Int32 → Int32 → Int32 → St → Prop
  | 0, _, _, _, _ => False
  | n + 1, v1, v2, v4, z => ((v4 < 0 → Q (-1) z) ∧ (¬ v4 < 0 → (vp_in v4 160 ∧ ((¬ (g_A z 1 (v4 : Int32).toNatClampNeg) = v1 → w_M0_lastBy_5 K Q n v1 v2 (v4 + (-1)) z) ∧ ((g_A z 1 (v4 : Int32).toNatClampNeg) = v1 → (vp_in v4 160 ∧ ((¬ (g_A z 2 (v4 : Int32).toNatClampNeg) = v2 → w_M0_lastBy_5 K Q n v1 v2 (v4 + (-1)) z) ∧ ((g_A z 2 (v4 : Int32).toNatClampNeg) = v2 → (vp_in v4 160 ∧ (((g_A z 0 (v4 : Int32).toNatClampNeg) = 1 → Q v4 z) ∧ (¬ (g_A z 0 (v4 : Int32).toNatClampNeg) = 1 → (vp_in v4 160 ∧ ((¬ (g_A z 0 (v4 : Int32).toNatClampNeg) = 2 → w_M0_lastBy_5 K Q n v1 v2 (v4 + (-1)) z) ∧ ((g_A z 0 (v4 : Int32).toNatClampNeg) = 2 → Q v4 z))))))))))))))
def w_M0_lastBy (K : Nat) (x1 : Int32) (x2 : Int32) (x3 : Int32) (z : St) (Q : Int32 → St → Prop) : Prop :=
  (∃ n9, w_M0_lastBy_5 K Q n9 x1 x2 (x3 - 1) z)
set_option maxHeartbeats 4000000 in
set_option maxRecDepth 100000 in
theorem l_M0_lastBy_5 (l : Launch) (K : Nat) (cA : Nat → ClassId) (D : va_G) (a : Nat → Nat) (Q : Int32 → St → Prop) (p : Program) (e : Env) (s : State) (m : MethodId) (args : Array Value) (below : List Frame) (meth : Method) (c : Code) (hc : Cx TS NS CL D (tyX cA) p s m args meth c b_M0_lastBy 5 y_M0_lastBy.cls) (hr : meth.sig.returnType = (some .int)) : ∀ (n : Nat) (v1 : Int32) (v2 : Int32) (v4 : Int32) (z : St), w_M0_lastBy_5 K Q n v1 v2 v4 z → V CL p l e { frames := 0, cells := 0, slots := 0, locals := 0 } s m args below meth c 5 D (AX 19 a s.heap.size) 0 0 (MQ below (Qg NS CL D (tyX cA) (WM K cA a) (AX 19 a s.heap.size) mkI Q) args s 0 0 (AX 19 a s.heap.size)) (WM K cA a z) 5 [(0, .ref (a 0)), (1, .int v1), (2, .int v2), (4, .int v4)] [] := by
  intro n
  induction n with
  | zero =>
    intro v1 v2 v4 z hw
    exact hw.elim
  | succ n ih =>
    intro v1 v2 v4 z hw
    unfold w_M0_lastBy_5 at hw
    refine V_iload hc d_M0_lastBy_5 3 rfl ?_
    refine V_if_lt (tgt := 63) hc d_M0_lastBy_7 rfl (fun h => ?_) (fun h => ?_)
    · replace hw := hw.1 h
      refine V_iconst (v := (-1)) hc d_M0_lastBy_63 (by decide) ?_
      exact V_iret hc NS_nest hr hw d_M0_lastBy_64
    · replace hw := hw.2 h
      refine V_aload_n hc d_M0_lastBy_10 rfl 0 rfl ?_
      refine V_get (v := .ref (a 2)) hc uin_M0 0 eM_0 rfl 6 (by decide) k_591 rfl d_M0_lastBy_11 ?_
      refine V_iload hc d_M0_lastBy_14 3 rfl ?_
      obtain ⟨hi, hw⟩ := hw
      refine V_iald (x := g_A z 1 (v4 : Int32).toNatClampNeg) hc 2 0 eM_2 rfl hi rfl d_M0_lastBy_16 ?_
      refine V_iload_n hc d_M0_lastBy_17 rfl 1 rfl ?_
      refine V_icmp_ne (tgt := 57) hc d_M0_lastBy_18 rfl (fun h => ?_) (fun h => ?_)
      · replace hw := hw.1 h
        refine V_iinc (v := (v4 + (-1))) hc [(4, .int (v4 + (-1))), (0, .ref (a 0)), (1, .int v1), (2, .int v2)] d_M0_lastBy_57 3 rfl (by rfl) (by decide) rfl ?_
        refine V_goto (tgt := 5) hc d_M0_lastBy_60 rfl ?_
        refine V_sub [1, 2, 3, 0] [(0, .ref (a 0)), (1, .int v1), (2, .int v2), (4, .int (v4 + (-1)))] rfl ?_
        exact ih v1 v2 (v4 + (-1)) z hw
      · replace hw := hw.2 h
        refine V_aload_n hc d_M0_lastBy_21 rfl 0 rfl ?_
        refine V_get (v := .ref (a 3)) hc uin_M0 0 eM_0 rfl 7 (by decide) k_592 rfl d_M0_lastBy_22 ?_
        refine V_iload hc d_M0_lastBy_25 3 rfl ?_
        obtain ⟨hi, hw⟩ := hw
        refine V_iald (x := g_A z 2 (v4 : Int32).toNatClampNeg) hc 3 0 eM_3 rfl hi rfl d_M0_lastBy_27 ?_
        refine V_iload_n hc d_M0_lastBy_28 rfl 2 rfl ?_
        refine V_icmp_ne (tgt := 57) hc d_M0_lastBy_29 rfl (fun h => ?_) (fun h => ?_)
        · replace hw := hw.1 h
          refine V_iinc (v := (v4 + (-1))) hc [(4, .int (v4 + (-1))), (0, .ref (a 0)), (1, .int v1), (2, .int v2)] d_M0_lastBy_57 3 rfl (by rfl) (by decide) rfl ?_
          refine V_goto (tgt := 5) hc d_M0_lastBy_60 rfl ?_
          refine V_sub [1, 2, 3, 0] [(0, .ref (a 0)), (1, .int v1), (2, .int v2), (4, .int (v4 + (-1)))] rfl ?_
          exact ih v1 v2 (v4 + (-1)) z hw
        · replace hw := hw.2 h
          refine V_aload_n hc d_M0_lastBy_32 rfl 0 rfl ?_
          refine V_get (v := .ref (a 1)) hc uin_M0 0 eM_0 rfl 5 (by decide) k_590 rfl d_M0_lastBy_33 ?_
          refine V_iload hc d_M0_lastBy_36 3 rfl ?_
          obtain ⟨hi, hw⟩ := hw
          refine V_iald (x := g_A z 0 (v4 : Int32).toNatClampNeg) hc 1 0 eM_1 rfl hi rfl d_M0_lastBy_38 ?_
          refine V_iconst (v := 1) hc d_M0_lastBy_39 (by decide) ?_
          refine V_icmp_eq (tgt := 54) hc d_M0_lastBy_40 rfl (fun h => ?_) (fun h => ?_)
          · replace hw := hw.1 h
            refine V_iload hc d_M0_lastBy_54 3 rfl ?_
            exact V_iret hc NS_nest hr hw d_M0_lastBy_56
          · replace hw := hw.2 h
            refine V_aload_n hc d_M0_lastBy_43 rfl 0 rfl ?_
            refine V_get (v := .ref (a 1)) hc uin_M0 0 eM_0 rfl 5 (by decide) k_590 rfl d_M0_lastBy_44 ?_
            refine V_iload hc d_M0_lastBy_47 3 rfl ?_
            obtain ⟨hi, hw⟩ := hw
            refine V_iald (x := g_A z 0 (v4 : Int32).toNatClampNeg) hc 1 0 eM_1 rfl hi rfl d_M0_lastBy_49 ?_
            refine V_iconst (v := 2) hc d_M0_lastBy_50 (by decide) ?_
            refine V_icmp_ne (tgt := 57) hc d_M0_lastBy_51 rfl (fun h => ?_) (fun h => ?_)
            · replace hw := hw.1 h
              refine V_iinc (v := (v4 + (-1))) hc [(4, .int (v4 + (-1))), (0, .ref (a 0)), (1, .int v1), (2, .int v2)] d_M0_lastBy_57 3 rfl (by rfl) (by decide) rfl ?_
              refine V_goto (tgt := 5) hc d_M0_lastBy_60 rfl ?_
              refine V_sub [1, 2, 3, 0] [(0, .ref (a 0)), (1, .int v1), (2, .int v2), (4, .int (v4 + (-1)))] rfl ?_
              exact ih v1 v2 (v4 + (-1)) z hw
            · replace hw := hw.2 h
              refine V_iload hc d_M0_lastBy_54 3 rfl ?_
              exact V_iret hc NS_nest hr hw d_M0_lastBy_56
set_option maxHeartbeats 4000000 in
set_option maxRecDepth 100000 in
theorem c_M0_lastBy (l : Launch) (K : Nat) (cA : Nat → ClassId) (D : va_G) (a : Nat → Nat) (x1 : Int32) (x2 : Int32) (x3 : Int32) (z : St) : Ct l NS CL D (tyX cA) 19 a (WM K cA a) mkI y_M0_lastBy (.code y_M0_lastBy b_M0_lastBy 5 (some .int) :: TS) { frames := 0, cells := 0, slots := 0, locals := 0 } [.ref (a 0), .int x1, .int x2, .int x3] z (w_M0_lastBy K x1 x2 x3 z) := by
  refine Ct.of (by decide) (Nat.le_of_ble_eq_true rfl) adM ?_
  intro Q p e s m args below meth c hc hr hw
  unfold w_M0_lastBy at hw
  refine V_st _ [(0, .ref (a 0)), (1, .int x1), (2, .int x2), (3, .int x3)] _ rfl rfl rfl ?_
  refine V_iload_n hc d_M0_lastBy_0 rfl 3 rfl ?_
  refine V_iconst (v := 1) hc d_M0_lastBy_1 (by decide) ?_
  refine V_isub hc d_M0_lastBy_2 rfl ?_
  refine V_istore hc [(4, .int (x3 - 1)), (0, .ref (a 0)), (1, .int x1), (2, .int x2), (3, .int x3)] d_M0_lastBy_3 (by decide) rfl ?_
  obtain ⟨n9, hw⟩ := hw
  refine V_sub [1, 2, 3, 0] [(0, .ref (a 0)), (1, .int x1), (2, .int x2), (4, .int (x3 - 1))] rfl ?_
  exact l_M0_lastBy_5 l K cA D a Q p e s m args below meth c hc hr n9 x1 x2 (x3 - 1) z hw
def w_M0_struck_5 (K : Nat) (Q : Int32 → St → Prop) : Nat → Int32 → Int32 → Int32 → St → Prop
  | 0, _, _, _, _ => False
  | n + 1, v1, v3, v4, z => ((v3 ≤ v4 → Q 0 z) ∧ (¬ v3 ≤ v4 → (vp_in v4 160 ∧ ((¬ (g_A z 0 (v4 : Int32).toNatClampNeg) = 3 → w_M0_struck_5 K Q n v1 v3 (v4 + 1) z) ∧ ((g_A z 0 (v4 : Int32).toNatClampNeg) = 3 → (vp_in v4 160 ∧ w_M0_lastBy K (g_A z 1 (v4 : Int32).toNatClampNeg) v1 v4 z (fun r1 u2 => ((r1 < 0 → w_M0_struck_5 K Q n v1 v3 (v4 + 1) u2) ∧ (¬ r1 < 0 → Q 1 u2)))))))))
def w_M0_struck (K : Nat) (x1 : Int32) (x2 : Int32) (x3 : Int32) (z : St) (Q : Int32 → St → Prop) : Prop :=
  (∃ n9, w_M0_struck_5 K Q n9 x1 x3 (x2 + 1) z)
set_option maxHeartbeats 4000000 in
set_option maxRecDepth 100000 in
theorem l_M0_struck_5 (l : Launch) (K : Nat) (cA : Nat → ClassId) (D : va_G) (a : Nat → Nat) (Q : Int32 → St → Prop) (p : Program) (e : Env) (s : State) (m : MethodId) (args : Array Value) (below : List Frame) (meth : Method) (c : Code) (hc : Cx TS NS CL D (tyX cA) p s m args meth c b_M0_struck 5 y_M0_struck.cls) (hr : meth.sig.returnType = (some .boolean)) : ∀ (n : Nat) (v1 : Int32) (v3 : Int32) (v4 : Int32) (z : St), w_M0_struck_5 K Q n v1 v3 v4 z → V CL p l e { frames := 1, cells := 0, slots := 0, locals := 24 } s m args below meth c 5 D (AX 19 a s.heap.size) 0 0 (MQ below (Qg NS CL D (tyX cA) (WM K cA a) (AX 19 a s.heap.size) mkI Q) args s 0 0 (AX 19 a s.heap.size)) (WM K cA a z) 5 [(0, .ref (a 0)), (1, .int v1), (3, .int v3), (4, .int v4)] [] := by
  intro n
  induction n with
  | zero =>
    intro v1 v3 v4 z hw
    exact hw.elim
  | succ n ih =>
    intro v1 v3 v4 z hw
    unfold w_M0_struck_5 at hw
    refine V_iload hc d_M0_struck_5 3 rfl ?_
    refine V_iload_n hc d_M0_struck_7 rfl 2 rfl ?_
    refine V_icmp_ge (tgt := 47) hc d_M0_struck_8 rfl (fun h => ?_) (fun h => ?_)
    · replace hw := hw.1 h
      refine V_iconst (v := 0) hc d_M0_struck_47 (by decide) ?_
      exact V_zret hc NS_nest hr (by decide) hw d_M0_struck_48
    · replace hw := hw.2 h
      refine V_aload_n hc d_M0_struck_11 rfl 0 rfl ?_
      refine V_get (v := .ref (a 1)) hc uin_M0 0 eM_0 rfl 5 (by decide) k_590 rfl d_M0_struck_12 ?_
      refine V_iload hc d_M0_struck_15 3 rfl ?_
      obtain ⟨hi, hw⟩ := hw
      refine V_iald (x := g_A z 0 (v4 : Int32).toNatClampNeg) hc 1 0 eM_1 rfl hi rfl d_M0_struck_17 ?_
      refine V_iconst (v := 3) hc d_M0_struck_18 (by decide) ?_
      refine V_icmp_ne (tgt := 41) hc d_M0_struck_19 rfl (fun h => ?_) (fun h => ?_)
      · replace hw := hw.1 h
        refine V_iinc (v := (v4 + 1)) hc [(4, .int (v4 + 1)), (0, .ref (a 0)), (1, .int v1), (3, .int v3)] d_M0_struck_41 3 rfl (by rfl) (by decide) rfl ?_
        refine V_goto (tgt := 5) hc d_M0_struck_44 rfl ?_
        refine V_sub [1, 2, 3, 0] [(0, .ref (a 0)), (1, .int v1), (3, .int v3), (4, .int (v4 + 1))] rfl ?_
        exact ih v1 v3 (v4 + 1) z hw
      · replace hw := hw.2 h
        refine V_aload_n hc d_M0_struck_22 rfl 0 rfl ?_
        refine V_aload_n hc d_M0_struck_23 rfl 0 rfl ?_
        refine V_get (v := .ref (a 2)) hc uin_M0 0 eM_0 rfl 6 (by decide) k_591 rfl d_M0_struck_24 ?_
        refine V_iload hc d_M0_struck_27 3 rfl ?_
        obtain ⟨hi, hw⟩ := hw
        refine V_iald (x := g_A z 1 (v4 : Int32).toNatClampNeg) hc 2 0 eM_2 rfl hi rfl d_M0_struck_29 ?_
        refine V_iload_n hc d_M0_struck_30 rfl 1 rfl ?_
        refine V_iload hc d_M0_struck_31 3 rfl ?_
        refine V_callVi (As := [.int (g_A z 1 (v4 : Int32).toNatClampNeg), .int v1, .int v4]) (st := []) hc TS_good NS_nest (fun _ h => h) (c_M0_lastBy l K cA D a (g_A z 1 (v4 : Int32).toNatClampNeg) v1 v4 z) k_716 k_10 k_719 k_718 kp_M0_lastBy 0 eM_0 rfl q_M0_lastBy (by decide) (Nat.zero_le _) (Nat.zero_le _) rfl (Nat.le_of_ble_eq_true rfl) d_M0_struck_33 hw (fun r1 u2 hw => ?_)
        try dsimp only at hw
        refine V_if_lt (tgt := 41) hc d_M0_struck_36 rfl (fun h => ?_) (fun h => ?_)
        · replace hw := hw.1 h
          refine V_iinc (v := (v4 + 1)) hc [(4, .int (v4 + 1)), (0, .ref (a 0)), (1, .int v1), (3, .int v3)] d_M0_struck_41 3 rfl (by rfl) (by decide) rfl ?_
          refine V_goto (tgt := 5) hc d_M0_struck_44 rfl ?_
          refine V_sub [1, 2, 3, 0] [(0, .ref (a 0)), (1, .int v1), (3, .int v3), (4, .int (v4 + 1))] rfl ?_
          exact ih v1 v3 (v4 + 1) u2 hw
        · replace hw := hw.2 h
          refine V_iconst (v := 1) hc d_M0_struck_39 (by decide) ?_
          exact V_zret hc NS_nest hr (by decide) hw d_M0_struck_40
set_option maxHeartbeats 4000000 in
set_option maxRecDepth 100000 in
theorem c_M0_struck (l : Launch) (K : Nat) (cA : Nat → ClassId) (D : va_G) (a : Nat → Nat) (x1 : Int32) (x2 : Int32) (x3 : Int32) (z : St) : Ct l NS CL D (tyX cA) 19 a (WM K cA a) mkI y_M0_struck (.code y_M0_struck b_M0_struck 5 (some .boolean) :: TS) { frames := 1, cells := 0, slots := 0, locals := 24 } [.ref (a 0), .int x1, .int x2, .int x3] z (w_M0_struck K x1 x2 x3 z) := by
  refine Ct.of (by decide) (Nat.le_of_ble_eq_true rfl) adM ?_
  intro Q p e s m args below meth c hc hr hw
  unfold w_M0_struck at hw
  refine V_st _ [(0, .ref (a 0)), (1, .int x1), (2, .int x2), (3, .int x3)] _ rfl rfl rfl ?_
  refine V_iload_n hc d_M0_struck_0 rfl 2 rfl ?_
  refine V_iconst (v := 1) hc d_M0_struck_1 (by decide) ?_
  refine V_iadd hc d_M0_struck_2 rfl ?_
  refine V_istore hc [(4, .int (x2 + 1)), (0, .ref (a 0)), (1, .int x1), (2, .int x2), (3, .int x3)] d_M0_struck_3 (by decide) rfl ?_
  obtain ⟨n9, hw⟩ := hw
  refine V_sub [1, 2, 4, 0] [(0, .ref (a 0)), (1, .int x1), (3, .int x3), (4, .int (x2 + 1))] rfl ?_
  exact l_M0_struck_5 l K cA D a Q p e s m args below meth c hc hr n9 x1 x3 (x2 + 1) z hw
def w_M0_rowOf (K : Nat) (x1 : Int32) (x2 : Int32) (z : St) (Q : Int64 → St → Prop) : Prop :=
  Q (((x1 : Int32).toInt64 <<< ((32 : Int32).toInt64 &&& 63)) ||| ((x2 : Int32).toInt64 &&& 4294967295)) z
set_option maxHeartbeats 4000000 in
set_option maxRecDepth 100000 in
theorem c_M0_rowOf (l : Launch) (K : Nat) (cA : Nat → ClassId) (D : va_G) (a : Nat → Nat) (x1 : Int32) (x2 : Int32) (z : St) : Ct l NS CL D (tyX cA) 0 a (fun _ => []) mkL y_M0_rowOf (.code y_M0_rowOf b_M0_rowOf 2 (some .long) :: TS) { frames := 0, cells := 0, slots := 0, locals := 0 } [.int x1, .int x2] z (w_M0_rowOf K x1 x2 z) := by
  refine Ct.of (by decide) (Nat.le_of_ble_eq_true rfl) ad0 ?_
  intro Q p e s m args below meth c hc hr hw
  unfold w_M0_rowOf at hw
  refine V_st _ [(0, .int x1), (1, .int x2)] _ rfl rfl rfl ?_
  refine V_iload_n hc d_M0_rowOf_0 rfl 0 rfl ?_
  refine V_i2l hc d_M0_rowOf_1 rfl ?_
  refine V_bipush (v := 32) hc d_M0_rowOf_2 (by decide) ?_
  refine V_lshl hc d_M0_rowOf_4 rfl ?_
  refine V_iload_n hc d_M0_rowOf_5 rfl 1 rfl ?_
  refine V_i2l hc d_M0_rowOf_6 rfl ?_
  refine V_ldc2 (v := 4294967295) hc k_735 d_M0_rowOf_7 ?_
  refine V_land hc d_M0_rowOf_10 rfl ?_
  refine V_lor hc d_M0_rowOf_11 rfl ?_
  exact V_lret hc NS_nest hr hw d_M0_rowOf_12
def w_M0_made (K : Nat) (x1 : Int32) (z : St) (Q : Int64 → St → Prop) : Prop :=
  (vp_in x1 160 ∧ ((¬ (g_A z 0 (x1 : Int32).toNatClampNeg) = 1 → Q (-1) z) ∧ ((g_A z 0 (x1 : Int32).toNatClampNeg) = 1 → (vp_in x1 160 ∧ (vp_in x1 160 ∧ w_M0_rowOf K (g_A z 3 (x1 : Int32).toNatClampNeg) (g_A z 4 (x1 : Int32).toNatClampNeg) z (fun r1 u2 => Q r1 z))))))
set_option maxHeartbeats 4000000 in
set_option maxRecDepth 100000 in
theorem c_M0_made (l : Launch) (K : Nat) (cA : Nat → ClassId) (D : va_G) (a : Nat → Nat) (x1 : Int32) (z : St) : Ct l NS CL D (tyX cA) 19 a (WM K cA a) mkL y_M0_made (.code y_M0_made b_M0_made 2 (some .long) :: TS) { frames := 1, cells := 0, slots := 0, locals := 21 } [.ref (a 0), .int x1] z (w_M0_made K x1 z) := by
  refine Ct.of (by decide) (Nat.le_of_ble_eq_true rfl) adM ?_
  intro Q p e s m args below meth c hc hr hw
  unfold w_M0_made at hw
  refine V_st _ [(0, .ref (a 0)), (1, .int x1)] _ rfl rfl rfl ?_
  refine V_aload_n hc d_M0_made_0 rfl 0 rfl ?_
  refine V_get (v := .ref (a 1)) hc uin_M0 0 eM_0 rfl 5 (by decide) k_590 rfl d_M0_made_1 ?_
  refine V_iload_n hc d_M0_made_4 rfl 1 rfl ?_
  obtain ⟨hi, hw⟩ := hw
  refine V_iald (x := g_A z 0 (x1 : Int32).toNatClampNeg) hc 1 0 eM_1 rfl hi rfl d_M0_made_5 ?_
  refine V_iconst (v := 1) hc d_M0_made_6 (by decide) ?_
  refine V_icmp_ne (tgt := 28) hc d_M0_made_7 rfl (fun h => ?_) (fun h => ?_)
  · replace hw := hw.1 h
    refine V_ldc2 (v := (-1)) hc k_711 d_M0_made_28 ?_
    exact V_lret hc NS_nest hr hw d_M0_made_31
  · replace hw := hw.2 h
    refine V_aload_n hc d_M0_made_10 rfl 0 rfl ?_
    refine V_get (v := .ref (a 4)) hc uin_M0 0 eM_0 rfl 8 (by decide) k_593 rfl d_M0_made_11 ?_
    refine V_iload_n hc d_M0_made_14 rfl 1 rfl ?_
    obtain ⟨hi, hw⟩ := hw
    refine V_iald (x := g_A z 3 (x1 : Int32).toNatClampNeg) hc 4 0 eM_4 rfl hi rfl d_M0_made_15 ?_
    refine V_aload_n hc d_M0_made_16 rfl 0 rfl ?_
    refine V_get (v := .ref (a 5)) hc uin_M0 0 eM_0 rfl 9 (by decide) k_594 rfl d_M0_made_17 ?_
    refine V_iload_n hc d_M0_made_20 rfl 1 rfl ?_
    obtain ⟨hi, hw⟩ := hw
    refine V_iald (x := g_A z 4 (x1 : Int32).toNatClampNeg) hc 5 0 eM_5 rfl hi rfl d_M0_made_21 ?_
    refine V_callSl (b := 0) (As := [.int (g_A z 3 (x1 : Int32).toNatClampNeg), .int (g_A z 4 (x1 : Int32).toNatClampNeg)]) (st := []) hc TS_good NS_nest (fun _ h => Or.inr h) (c_M0_rowOf l K cA D a (g_A z 3 (x1 : Int32).toNatClampNeg) (g_A z 4 (x1 : Int32).toNatClampNeg) z) k_732 k_10 k_734 k_733 q_M0_rowOf (by decide) (Nat.zero_le _) (Nat.zero_le _) rfl (Nat.le_of_ble_eq_true rfl) d_M0_made_22 hw (fun r1 u2 hw => ?_)
    try dsimp only at hw
    refine V_goto (tgt := 31) hc d_M0_made_25 rfl ?_
    exact V_lret hc NS_nest hr hw d_M0_made_31
def w_M0_table_4 (K : Nat) (Q : Int64 → St → Prop) : Nat → Int32 → Int32 → St → Prop
  | 0, _, _, _ => False
  | n + 1, v1, v3, z => ((v3 < 0 → w_M0_rowOf K (v1 - v1 / 4 * 4) (10 * v1) z (fun r1 u2 => Q r1 z)) ∧ (¬ v3 < 0 → (vp_in v3 160 ∧ ((¬ (g_A z 0 (v3 : Int32).toNatClampNeg) = 3 → w_M0_table_4 K Q n v1 (v3 + (-1)) z) ∧ ((g_A z 0 (v3 : Int32).toNatClampNeg) = 3 → (vp_in v3 160 ∧ w_M0_lastBy K (g_A z 1 (v3 : Int32).toNatClampNeg) v1 v3 z (fun r3 u4 => ((r3 < 0 → w_M0_table_4 K Q n v1 (v3 + (-1)) u4) ∧ (¬ r3 < 0 → w_M0_made K r3 u4 (fun r5 u6 => Q r5 u6))))))))))
def w_M0_table (K : Nat) (x1 : Int32) (x2 : Int32) (z : St) (Q : Int64 → St → Prop) : Prop :=
  (∃ n9, w_M0_table_4 K Q n9 x1 (x2 - 1) z)
set_option maxHeartbeats 4000000 in
set_option maxRecDepth 100000 in
theorem l_M0_table_4 (l : Launch) (K : Nat) (cA : Nat → ClassId) (D : va_G) (a : Nat → Nat) (Q : Int64 → St → Prop) (p : Program) (e : Env) (s : State) (m : MethodId) (args : Array Value) (below : List Frame) (meth : Method) (c : Code) (hc : Cx TS NS CL D (tyX cA) p s m args meth c b_M0_table 5 y_M0_table.cls) (hr : meth.sig.returnType = (some .long)) : ∀ (n : Nat) (v1 : Int32) (v3 : Int32) (z : St), w_M0_table_4 K Q n v1 v3 z → V CL p l e { frames := 2, cells := 0, slots := 0, locals := 42 } s m args below meth c 5 D (AX 19 a s.heap.size) 0 0 (MQ below (Qg NS CL D (tyX cA) (WM K cA a) (AX 19 a s.heap.size) mkL Q) args s 0 0 (AX 19 a s.heap.size)) (WM K cA a z) 4 [(0, .ref (a 0)), (1, .int v1), (3, .int v3)] [] := by
  intro n
  induction n with
  | zero =>
    intro v1 v3 z hw
    exact hw.elim
  | succ n ih =>
    intro v1 v3 z hw
    unfold w_M0_table_4 at hw
    refine V_iload_n hc d_M0_table_4 rfl 2 rfl ?_
    refine V_if_lt (tgt := 54) hc d_M0_table_5 rfl (fun h => ?_) (fun h => ?_)
    · replace hw := hw.1 h
      refine V_iload_n hc d_M0_table_54 rfl 1 rfl ?_
      refine V_iconst (v := 4) hc d_M0_table_55 (by decide) ?_
      refine V_irem hc d_M0_table_56 (by decide) rfl ?_
      refine V_bipush (v := 10) hc d_M0_table_57 (by decide) ?_
      refine V_iload_n hc d_M0_table_59 rfl 1 rfl ?_
      refine V_imul hc d_M0_table_60 rfl ?_
      refine V_callSl (b := 0) (As := [.int (v1 - v1 / 4 * 4), .int (10 * v1)]) (st := []) hc TS_good NS_nest (fun _ h => Or.inr h) (c_M0_rowOf l K cA D a (v1 - v1 / 4 * 4) (10 * v1) z) k_732 k_10 k_734 k_733 q_M0_rowOf (by decide) (Nat.zero_le _) (Nat.zero_le _) rfl (Nat.le_of_ble_eq_true rfl) d_M0_table_61 hw (fun r1 u2 hw => ?_)
      try dsimp only at hw
      exact V_lret hc NS_nest hr hw d_M0_table_64
    · replace hw := hw.2 h
      refine V_aload_n hc d_M0_table_8 rfl 0 rfl ?_
      refine V_get (v := .ref (a 1)) hc uin_M0 0 eM_0 rfl 5 (by decide) k_590 rfl d_M0_table_9 ?_
      refine V_iload_n hc d_M0_table_12 rfl 2 rfl ?_
      obtain ⟨hi, hw⟩ := hw
      refine V_iald (x := g_A z 0 (v3 : Int32).toNatClampNeg) hc 1 0 eM_1 rfl hi rfl d_M0_table_13 ?_
      refine V_iconst (v := 3) hc d_M0_table_14 (by decide) ?_
      refine V_icmp_ne (tgt := 33) hc d_M0_table_15 rfl (fun h => ?_) (fun h => ?_)
      · replace hw := hw.1 h
        refine V_iconst (v := (-1)) hc d_M0_table_33 (by decide) ?_
        refine V_istore hc [(4, .int (-1)), (0, .ref (a 0)), (1, .int v1), (3, .int v3)] d_M0_table_34 (by decide) rfl ?_
        refine V_iload hc d_M0_table_36 0 rfl ?_
        refine V_if_lt (tgt := 48) hc d_M0_table_38 rfl (fun _ => ?_) (fun h => absurd h (by decide))
        refine V_iinc (v := (v3 + (-1))) hc [(3, .int (v3 + (-1))), (4, .int (-1)), (0, .ref (a 0)), (1, .int v1)] d_M0_table_48 3 rfl (by rfl) (by decide) rfl ?_
        refine V_goto (tgt := 4) hc d_M0_table_51 rfl ?_
        refine V_sub [2, 3, 0] [(0, .ref (a 0)), (1, .int v1), (3, .int (v3 + (-1)))] rfl ?_
        exact ih v1 (v3 + (-1)) z hw
      · replace hw := hw.2 h
        refine V_aload_n hc d_M0_table_18 rfl 0 rfl ?_
        refine V_aload_n hc d_M0_table_19 rfl 0 rfl ?_
        refine V_get (v := .ref (a 2)) hc uin_M0 0 eM_0 rfl 6 (by decide) k_591 rfl d_M0_table_20 ?_
        refine V_iload_n hc d_M0_table_23 rfl 2 rfl ?_
        obtain ⟨hi, hw⟩ := hw
        refine V_iald (x := g_A z 1 (v3 : Int32).toNatClampNeg) hc 2 0 eM_2 rfl hi rfl d_M0_table_24 ?_
        refine V_iload_n hc d_M0_table_25 rfl 1 rfl ?_
        refine V_iload_n hc d_M0_table_26 rfl 2 rfl ?_
        refine V_callVi (As := [.int (g_A z 1 (v3 : Int32).toNatClampNeg), .int v1, .int v3]) (st := []) hc TS_good NS_nest (fun _ h => h) (c_M0_lastBy l K cA D a (g_A z 1 (v3 : Int32).toNatClampNeg) v1 v3 z) k_716 k_10 k_719 k_718 kp_M0_lastBy 0 eM_0 rfl q_M0_lastBy (by decide) (Nat.zero_le _) (Nat.zero_le _) rfl (Nat.le_of_ble_eq_true rfl) d_M0_table_27 hw (fun r3 u4 hw => ?_)
        try dsimp only at hw
        refine V_goto (tgt := 34) hc d_M0_table_30 rfl ?_
        refine V_istore hc [(4, .int r3), (0, .ref (a 0)), (1, .int v1), (3, .int v3)] d_M0_table_34 (by decide) rfl ?_
        refine V_iload hc d_M0_table_36 0 rfl ?_
        refine V_if_lt (tgt := 48) hc d_M0_table_38 rfl (fun h => ?_) (fun h => ?_)
        · replace hw := hw.1 h
          refine V_iinc (v := (v3 + (-1))) hc [(3, .int (v3 + (-1))), (4, .int r3), (0, .ref (a 0)), (1, .int v1)] d_M0_table_48 3 rfl (by rfl) (by decide) rfl ?_
          refine V_goto (tgt := 4) hc d_M0_table_51 rfl ?_
          refine V_sub [2, 3, 0] [(0, .ref (a 0)), (1, .int v1), (3, .int (v3 + (-1)))] rfl ?_
          exact ih v1 (v3 + (-1)) u4 hw
        · replace hw := hw.2 h
          refine V_aload_n hc d_M0_table_41 rfl 1 rfl ?_
          refine V_iload hc d_M0_table_42 0 rfl ?_
          refine V_callVl (As := [.int r3]) (st := []) hc TS_good NS_nest (fun _ h => h) (c_M0_made l K cA D a r3 u4) k_728 k_10 k_731 k_730 kp_M0_made 0 eM_0 rfl q_M0_made (by decide) (Nat.zero_le _) (Nat.zero_le _) rfl (Nat.le_of_ble_eq_true rfl) d_M0_table_44 hw (fun r5 u6 hw => ?_)
          try dsimp only at hw
          exact V_lret hc NS_nest hr hw d_M0_table_47
set_option maxHeartbeats 4000000 in
set_option maxRecDepth 100000 in
theorem c_M0_table (l : Launch) (K : Nat) (cA : Nat → ClassId) (D : va_G) (a : Nat → Nat) (x1 : Int32) (x2 : Int32) (z : St) : Ct l NS CL D (tyX cA) 19 a (WM K cA a) mkL y_M0_table (.code y_M0_table b_M0_table 5 (some .long) :: TS) { frames := 2, cells := 0, slots := 0, locals := 42 } [.ref (a 0), .int x1, .int x2] z (w_M0_table K x1 x2 z) := by
  refine Ct.of (by decide) (Nat.le_of_ble_eq_true rfl) adM ?_
  intro Q p e s m args below meth c hc hr hw
  unfold w_M0_table at hw
  refine V_st _ [(0, .ref (a 0)), (1, .int x1), (2, .int x2)] _ rfl rfl rfl ?_
  refine V_iload_n hc d_M0_table_0 rfl 2 rfl ?_
  refine V_iconst (v := 1) hc d_M0_table_1 (by decide) ?_
  refine V_isub hc d_M0_table_2 rfl ?_
  refine V_istore_n hc [(3, .int (x2 - 1)), (0, .ref (a 0)), (1, .int x1), (2, .int x2)] d_M0_table_3 rfl (by decide) rfl ?_
  obtain ⟨n9, hw⟩ := hw
  refine V_sub [1, 2, 0] [(0, .ref (a 0)), (1, .int x1), (3, .int (x2 - 1))] rfl ?_
  exact l_M0_table_4 l K cA D a Q p e s m args below meth c hc hr n9 x1 (x2 - 1) z hw
def w_M0_speaks (K : Nat) (x1 : Int32) (x2 : Int32) (z : St) (Q : Int32 → St → Prop) : Prop :=
  (vp_in x1 160 ∧ ((¬ (g_A z 0 (x1 : Int32).toNatClampNeg) = 3 → (vp_in x1 160 ∧ ((x2 < (g_A z 7 (x1 : Int32).toNatClampNeg) → Q 0 z) ∧ (¬ x2 < (g_A z 7 (x1 : Int32).toNatClampNeg) → (vp_in x1 160 ∧ ((((g_A z 7 (x1 : Int32).toNatClampNeg) + g_I z 1) ≤ x2 → Q 0 z) ∧ (¬ ((g_A z 7 (x1 : Int32).toNatClampNeg) + g_I z 1) ≤ x2 → (vp_in x1 160 ∧ w_M0_struck K x2 (g_A z 5 (x1 : Int32).toNatClampNeg) x1 z (fun r1 u2 => ((¬ r1 = 0 → Q 0 u2) ∧ (r1 = 0 → (vp_in x1 160 ∧ w_M0_table K x2 (g_A u2 6 (x1 : Int32).toNatClampNeg) u2 (fun r3 u4 => (((lg_cmp r3 0) < 0 → Q 0 u4) ∧ (¬ (lg_cmp r3 0) < 0 → Q 1 u4))))))))))))))) ∧ ((g_A z 0 (x1 : Int32).toNatClampNeg) = 3 → (vp_in x1 160 ∧ w_M0_lastBy K (g_A z 1 (x1 : Int32).toNatClampNeg) x2 x1 z (fun r5 u6 => ((r5 < 0 → Q 0 u6) ∧ (¬ r5 < 0 → Q 1 u6)))))))
set_option maxHeartbeats 4000000 in
set_option maxRecDepth 100000 in
theorem c_M0_speaks (l : Launch) (K : Nat) (cA : Nat → ClassId) (D : va_G) (a : Nat → Nat) (x1 : Int32) (x2 : Int32) (z : St) : Ct l NS CL D (tyX cA) 19 a (WM K cA a) mkI y_M0_speaks (.code y_M0_speaks b_M0_speaks 4 (some .boolean) :: TS) { frames := 3, cells := 0, slots := 0, locals := 66 } [.ref (a 0), .int x1, .int x2] z (w_M0_speaks K x1 x2 z) := by
  refine Ct.of (by decide) (Nat.le_of_ble_eq_true rfl) adM ?_
  intro Q p e s m args below meth c hc hr hw
  unfold w_M0_speaks at hw
  refine V_st _ [(0, .ref (a 0)), (1, .int x1), (2, .int x2)] _ rfl rfl rfl ?_
  refine V_aload_n hc d_M0_speaks_0 rfl 0 rfl ?_
  refine V_get (v := .ref (a 1)) hc uin_M0 0 eM_0 rfl 5 (by decide) k_590 rfl d_M0_speaks_1 ?_
  refine V_iload_n hc d_M0_speaks_4 rfl 1 rfl ?_
  obtain ⟨hi, hw⟩ := hw
  refine V_iald (x := g_A z 0 (x1 : Int32).toNatClampNeg) hc 1 0 eM_1 rfl hi rfl d_M0_speaks_5 ?_
  refine V_iconst (v := 3) hc d_M0_speaks_6 (by decide) ?_
  refine V_icmp_ne (tgt := 31) hc d_M0_speaks_7 rfl (fun h => ?_) (fun h => ?_)
  · replace hw := hw.1 h
    refine V_iload_n hc d_M0_speaks_31 rfl 2 rfl ?_
    refine V_aload_n hc d_M0_speaks_32 rfl 0 rfl ?_
    refine V_get (v := .ref (a 8)) hc uin_M0 0 eM_0 rfl 12 (by decide) k_597 rfl d_M0_speaks_33 ?_
    refine V_iload_n hc d_M0_speaks_36 rfl 1 rfl ?_
    obtain ⟨hi, hw⟩ := hw
    refine V_iald (x := g_A z 7 (x1 : Int32).toNatClampNeg) hc 8 0 eM_8 rfl hi rfl d_M0_speaks_37 ?_
    refine V_icmp_lt (tgt := 60) hc d_M0_speaks_38 rfl (fun h => ?_) (fun h => ?_)
    · replace hw := hw.1 h
      refine V_iconst (v := 0) hc d_M0_speaks_60 (by decide) ?_
      refine V_istore_n hc [(3, .int 0), (0, .ref (a 0)), (1, .int x1), (2, .int x2)] d_M0_speaks_61 rfl (by decide) rfl ?_
      refine V_iload_n hc d_M0_speaks_62 rfl 0 rfl ?_
      refine V_if_eq (tgt := 101) hc d_M0_speaks_63 rfl (fun _ => ?_) (fun h => absurd h (by decide))
      refine V_iconst (v := 0) hc d_M0_speaks_101 (by decide) ?_
      exact V_zret hc NS_nest hr (by decide) hw d_M0_speaks_102
    · replace hw := hw.2 h
      refine V_iload_n hc d_M0_speaks_41 rfl 2 rfl ?_
      refine V_aload_n hc d_M0_speaks_42 rfl 0 rfl ?_
      refine V_get (v := .ref (a 8)) hc uin_M0 0 eM_0 rfl 12 (by decide) k_597 rfl d_M0_speaks_43 ?_
      refine V_iload_n hc d_M0_speaks_46 rfl 1 rfl ?_
      obtain ⟨hi, hw⟩ := hw
      refine V_iald (x := g_A z 7 (x1 : Int32).toNatClampNeg) hc 8 0 eM_8 rfl hi rfl d_M0_speaks_47 ?_
      refine V_aload_n hc d_M0_speaks_48 rfl 0 rfl ?_
      refine V_get (v := .int (g_I z 1)) hc uin_M0 0 eM_0 rfl 1 (by decide) k_586 rfl d_M0_speaks_49 ?_
      refine V_iadd hc d_M0_speaks_52 rfl ?_
      refine V_icmp_ge (tgt := 60) hc d_M0_speaks_53 rfl (fun h => ?_) (fun h => ?_)
      · replace hw := hw.1 h
        refine V_iconst (v := 0) hc d_M0_speaks_60 (by decide) ?_
        refine V_istore_n hc [(3, .int 0), (0, .ref (a 0)), (1, .int x1), (2, .int x2)] d_M0_speaks_61 rfl (by decide) rfl ?_
        refine V_iload_n hc d_M0_speaks_62 rfl 0 rfl ?_
        refine V_if_eq (tgt := 101) hc d_M0_speaks_63 rfl (fun _ => ?_) (fun h => absurd h (by decide))
        refine V_iconst (v := 0) hc d_M0_speaks_101 (by decide) ?_
        exact V_zret hc NS_nest hr (by decide) hw d_M0_speaks_102
      · replace hw := hw.2 h
        refine V_iconst (v := 1) hc d_M0_speaks_56 (by decide) ?_
        refine V_goto (tgt := 61) hc d_M0_speaks_57 rfl ?_
        refine V_istore_n hc [(3, .int 1), (0, .ref (a 0)), (1, .int x1), (2, .int x2)] d_M0_speaks_61 rfl (by decide) rfl ?_
        refine V_iload_n hc d_M0_speaks_62 rfl 0 rfl ?_
        refine V_if_eq (tgt := 101) hc d_M0_speaks_63 rfl (fun h => absurd h (by decide)) (fun _ => ?_)
        refine V_aload_n hc d_M0_speaks_66 rfl 1 rfl ?_
        refine V_iload_n hc d_M0_speaks_67 rfl 3 rfl ?_
        refine V_aload_n hc d_M0_speaks_68 rfl 1 rfl ?_
        refine V_get (v := .ref (a 6)) hc uin_M0 0 eM_0 rfl 10 (by decide) k_595 rfl d_M0_speaks_69 ?_
        refine V_iload_n hc d_M0_speaks_72 rfl 2 rfl ?_
        obtain ⟨hi, hw⟩ := hw
        refine V_iald (x := g_A z 5 (x1 : Int32).toNatClampNeg) hc 6 0 eM_6 rfl hi rfl d_M0_speaks_73 ?_
        refine V_iload_n hc d_M0_speaks_74 rfl 2 rfl ?_
        refine V_callVi (As := [.int x2, .int (g_A z 5 (x1 : Int32).toNatClampNeg), .int x1]) (st := []) hc TS_good NS_nest (fun _ h => h) (c_M0_struck l K cA D a x2 (g_A z 5 (x1 : Int32).toNatClampNeg) x1 z) k_720 k_10 k_723 k_722 kp_M0_struck 0 eM_0 rfl q_M0_struck (by decide) (Nat.zero_le _) (Nat.zero_le _) rfl (Nat.le_of_ble_eq_true rfl) d_M0_speaks_75 hw (fun r1 u2 hw => ?_)
        try dsimp only at hw
        refine V_if_ne (tgt := 101) hc d_M0_speaks_78 rfl (fun h => ?_) (fun h => ?_)
        · replace hw := hw.1 h
          refine V_iconst (v := 0) hc d_M0_speaks_101 (by decide) ?_
          exact V_zret hc NS_nest hr (by decide) hw d_M0_speaks_102
        · replace hw := hw.2 h
          refine V_aload_n hc d_M0_speaks_81 rfl 1 rfl ?_
          refine V_iload_n hc d_M0_speaks_82 rfl 3 rfl ?_
          refine V_aload_n hc d_M0_speaks_83 rfl 1 rfl ?_
          refine V_get (v := .ref (a 7)) hc uin_M0 0 eM_0 rfl 11 (by decide) k_596 rfl d_M0_speaks_84 ?_
          refine V_iload_n hc d_M0_speaks_87 rfl 2 rfl ?_
          obtain ⟨hi, hw⟩ := hw
          refine V_iald (x := g_A u2 6 (x1 : Int32).toNatClampNeg) hc 7 0 eM_7 rfl hi rfl d_M0_speaks_88 ?_
          refine V_callVl (As := [.int x2, .int (g_A u2 6 (x1 : Int32).toNatClampNeg)]) (st := []) hc TS_good NS_nest (fun _ h => h) (c_M0_table l K cA D a x2 (g_A u2 6 (x1 : Int32).toNatClampNeg) u2) k_724 k_10 k_727 k_726 kp_M0_table 0 eM_0 rfl q_M0_table (by decide) (Nat.zero_le _) (Nat.zero_le _) rfl (Nat.le_of_ble_eq_true rfl) d_M0_speaks_89 hw (fun r3 u4 hw => ?_)
          try dsimp only at hw
          refine V_lconst (v := 0) hc d_M0_speaks_92 (by decide) ?_
          refine V_lcmp hc d_M0_speaks_93 rfl ?_
          refine V_if_lt (tgt := 101) hc d_M0_speaks_94 rfl (fun h => ?_) (fun h => ?_)
          · replace hw := hw.1 h
            refine V_iconst (v := 0) hc d_M0_speaks_101 (by decide) ?_
            exact V_zret hc NS_nest hr (by decide) hw d_M0_speaks_102
          · replace hw := hw.2 h
            refine V_iconst (v := 1) hc d_M0_speaks_97 (by decide) ?_
            refine V_goto (tgt := 102) hc d_M0_speaks_98 rfl ?_
            exact V_zret hc NS_nest hr (by decide) hw d_M0_speaks_102
  · replace hw := hw.2 h
    refine V_aload_n hc d_M0_speaks_10 rfl 0 rfl ?_
    refine V_aload_n hc d_M0_speaks_11 rfl 0 rfl ?_
    refine V_get (v := .ref (a 2)) hc uin_M0 0 eM_0 rfl 6 (by decide) k_591 rfl d_M0_speaks_12 ?_
    refine V_iload_n hc d_M0_speaks_15 rfl 1 rfl ?_
    obtain ⟨hi, hw⟩ := hw
    refine V_iald (x := g_A z 1 (x1 : Int32).toNatClampNeg) hc 2 0 eM_2 rfl hi rfl d_M0_speaks_16 ?_
    refine V_iload_n hc d_M0_speaks_17 rfl 2 rfl ?_
    refine V_iload_n hc d_M0_speaks_18 rfl 1 rfl ?_
    refine V_callVi (As := [.int (g_A z 1 (x1 : Int32).toNatClampNeg), .int x2, .int x1]) (st := []) hc TS_good NS_nest (fun _ h => h) (c_M0_lastBy l K cA D a (g_A z 1 (x1 : Int32).toNatClampNeg) x2 x1 z) k_716 k_10 k_719 k_718 kp_M0_lastBy 0 eM_0 rfl q_M0_lastBy (by decide) (Nat.zero_le _) (Nat.zero_le _) rfl (Nat.le_of_ble_eq_true rfl) d_M0_speaks_19 hw (fun r5 u6 hw => ?_)
    try dsimp only at hw
    refine V_if_lt (tgt := 29) hc d_M0_speaks_22 rfl (fun h => ?_) (fun h => ?_)
    · replace hw := hw.1 h
      refine V_iconst (v := 0) hc d_M0_speaks_29 (by decide) ?_
      exact V_zret hc NS_nest hr (by decide) hw d_M0_speaks_30
    · replace hw := hw.2 h
      refine V_iconst (v := 1) hc d_M0_speaks_25 (by decide) ?_
      refine V_goto (tgt := 30) hc d_M0_speaks_26 rfl ?_
      exact V_zret hc NS_nest hr (by decide) hw d_M0_speaks_30
def w_M0_kept (K : Nat) (x1 : Int64) (z : St) (Q : Int64 → St → Prop) : Prop :=
  (((lg_cmp x1 0) < 0 → Q x1 z) ∧ (¬ (lg_cmp x1 0) < 0 → ((g_I z 3 ≤ (x1 : Int64).toInt32 → Q x1 z) ∧ (¬ g_I z 3 ≤ (x1 : Int64).toInt32 → Q (-1) z))))
set_option maxHeartbeats 4000000 in
set_option maxRecDepth 100000 in
theorem c_M0_kept (l : Launch) (K : Nat) (cA : Nat → ClassId) (D : va_G) (a : Nat → Nat) (x1 : Int64) (z : St) : Ct l NS CL D (tyX cA) 19 a (WM K cA a) mkL y_M0_kept (.code y_M0_kept b_M0_kept 3 (some .long) :: TS) { frames := 0, cells := 0, slots := 0, locals := 0 } [.ref (a 0), .long x1] z (w_M0_kept K x1 z) := by
  refine Ct.of (by decide) (Nat.le_of_ble_eq_true rfl) adM ?_
  intro Q p e s m args below meth c hc hr hw
  unfold w_M0_kept at hw
  refine V_st _ [(0, .ref (a 0)), (1, .long x1)] _ rfl rfl rfl ?_
  refine V_lload_n hc d_M0_kept_0 rfl 1 rfl ?_
  refine V_lconst (v := 0) hc d_M0_kept_1 (by decide) ?_
  refine V_lcmp hc d_M0_kept_2 rfl ?_
  refine V_if_lt (tgt := 21) hc d_M0_kept_3 rfl (fun h => ?_) (fun h => ?_)
  · replace hw := hw.1 h
    refine V_lload_n hc d_M0_kept_21 rfl 1 rfl ?_
    exact V_lret hc NS_nest hr hw d_M0_kept_22
  · replace hw := hw.2 h
    refine V_lload_n hc d_M0_kept_6 rfl 1 rfl ?_
    refine V_l2i hc d_M0_kept_7 rfl ?_
    refine V_aload_n hc d_M0_kept_8 rfl 0 rfl ?_
    refine V_get (v := .int (g_I z 3)) hc uin_M0 0 eM_0 rfl 3 (by decide) k_588 rfl d_M0_kept_9 ?_
    refine V_icmp_ge (tgt := 21) hc d_M0_kept_12 rfl (fun h => ?_) (fun h => ?_)
    · replace hw := hw.1 h
      refine V_lload_n hc d_M0_kept_21 rfl 1 rfl ?_
      exact V_lret hc NS_nest hr hw d_M0_kept_22
    · replace hw := hw.2 h
      refine V_ldc2 (v := (-1)) hc k_711 d_M0_kept_15 ?_
      refine V_goto (tgt := 22) hc d_M0_kept_18 rfl ?_
      exact V_lret hc NS_nest hr hw d_M0_kept_22
def w_M0_says (K : Nat) (x1 : Int32) (x2 : Int32) (z : St) (Q : Int64 → St → Prop) : Prop :=
  (vp_in x1 160 ∧ ((¬ (g_A z 0 (x1 : Int32).toNatClampNeg) = 3 → (vp_in x1 160 ∧ w_M0_table K x2 (g_A z 6 (x1 : Int32).toNatClampNeg) z (fun r1 u2 => w_M0_kept K r1 u2 (fun r3 u4 => Q r3 u4)))) ∧ ((g_A z 0 (x1 : Int32).toNatClampNeg) = 3 → (vp_in x1 160 ∧ w_M0_lastBy K (g_A z 1 (x1 : Int32).toNatClampNeg) x2 x1 z (fun r5 u6 => w_M0_made K r5 u6 (fun r7 u8 => w_M0_kept K r7 u8 (fun r9 u10 => Q r9 u10)))))))
set_option maxHeartbeats 4000000 in
set_option maxRecDepth 100000 in
theorem c_M0_says (l : Launch) (K : Nat) (cA : Nat → ClassId) (D : va_G) (a : Nat → Nat) (x1 : Int32) (x2 : Int32) (z : St) : Ct l NS CL D (tyX cA) 19 a (WM K cA a) mkL y_M0_says (.code y_M0_says b_M0_says 5 (some .long) :: TS) { frames := 3, cells := 0, slots := 0, locals := 66 } [.ref (a 0), .int x1, .int x2] z (w_M0_says K x1 x2 z) := by
  refine Ct.of (by decide) (Nat.le_of_ble_eq_true rfl) adM ?_
  intro Q p e s m args below meth c hc hr hw
  unfold w_M0_says at hw
  refine V_st _ [(0, .ref (a 0)), (1, .int x1), (2, .int x2)] _ rfl rfl rfl ?_
  refine V_aload_n hc d_M0_says_0 rfl 0 rfl ?_
  refine V_get (v := .ref (a 1)) hc uin_M0 0 eM_0 rfl 5 (by decide) k_590 rfl d_M0_says_1 ?_
  refine V_iload_n hc d_M0_says_4 rfl 1 rfl ?_
  obtain ⟨hi, hw⟩ := hw
  refine V_iald (x := g_A z 0 (x1 : Int32).toNatClampNeg) hc 1 0 eM_1 rfl hi rfl d_M0_says_5 ?_
  refine V_iconst (v := 3) hc d_M0_says_6 (by decide) ?_
  refine V_icmp_ne (tgt := 33) hc d_M0_says_7 rfl (fun h => ?_) (fun h => ?_)
  · replace hw := hw.1 h
    refine V_aload_n hc d_M0_says_33 rfl 0 rfl ?_
    refine V_iload_n hc d_M0_says_34 rfl 2 rfl ?_
    refine V_aload_n hc d_M0_says_35 rfl 0 rfl ?_
    refine V_get (v := .ref (a 7)) hc uin_M0 0 eM_0 rfl 11 (by decide) k_596 rfl d_M0_says_36 ?_
    refine V_iload_n hc d_M0_says_39 rfl 1 rfl ?_
    obtain ⟨hi, hw⟩ := hw
    refine V_iald (x := g_A z 6 (x1 : Int32).toNatClampNeg) hc 7 0 eM_7 rfl hi rfl d_M0_says_40 ?_
    refine V_callVl (As := [.int x2, .int (g_A z 6 (x1 : Int32).toNatClampNeg)]) (st := []) hc TS_good NS_nest (fun _ h => h) (c_M0_table l K cA D a x2 (g_A z 6 (x1 : Int32).toNatClampNeg) z) k_724 k_10 k_727 k_726 kp_M0_table 0 eM_0 rfl q_M0_table (by decide) (Nat.zero_le _) (Nat.zero_le _) rfl (Nat.le_of_ble_eq_true rfl) d_M0_says_41 hw (fun r1 u2 hw => ?_)
    try dsimp only at hw
    refine V_lstore_n hc [(3, .long r1), (0, .ref (a 0)), (1, .int x1), (2, .int x2)] d_M0_says_44 rfl (by decide) rfl ?_
    refine V_aload_n hc d_M0_says_45 rfl 1 rfl ?_
    refine V_lload_n hc d_M0_says_46 rfl 0 rfl ?_
    refine V_callVl (As := [.long r1]) (st := []) hc TS_good NS_nest (fun _ h => h) (c_M0_kept l K cA D a r1 u2) k_740 k_10 k_743 k_742 kp_M0_kept 0 eM_0 rfl q_M0_kept (by decide) (Nat.zero_le _) (Nat.zero_le _) rfl (Nat.le_of_ble_eq_true rfl) d_M0_says_47 hw (fun r3 u4 hw => ?_)
    try dsimp only at hw
    exact V_lret hc NS_nest hr hw d_M0_says_50
  · replace hw := hw.2 h
    refine V_aload_n hc d_M0_says_10 rfl 0 rfl ?_
    refine V_aload_n hc d_M0_says_11 rfl 0 rfl ?_
    refine V_get (v := .ref (a 2)) hc uin_M0 0 eM_0 rfl 6 (by decide) k_591 rfl d_M0_says_12 ?_
    refine V_iload_n hc d_M0_says_15 rfl 1 rfl ?_
    obtain ⟨hi, hw⟩ := hw
    refine V_iald (x := g_A z 1 (x1 : Int32).toNatClampNeg) hc 2 0 eM_2 rfl hi rfl d_M0_says_16 ?_
    refine V_iload_n hc d_M0_says_17 rfl 2 rfl ?_
    refine V_iload_n hc d_M0_says_18 rfl 1 rfl ?_
    refine V_callVi (As := [.int (g_A z 1 (x1 : Int32).toNatClampNeg), .int x2, .int x1]) (st := []) hc TS_good NS_nest (fun _ h => h) (c_M0_lastBy l K cA D a (g_A z 1 (x1 : Int32).toNatClampNeg) x2 x1 z) k_716 k_10 k_719 k_718 kp_M0_lastBy 0 eM_0 rfl q_M0_lastBy (by decide) (Nat.zero_le _) (Nat.zero_le _) rfl (Nat.le_of_ble_eq_true rfl) d_M0_says_19 hw (fun r5 u6 hw => ?_)
    try dsimp only at hw
    refine V_istore_n hc [(3, .int r5), (0, .ref (a 0)), (1, .int x1), (2, .int x2)] d_M0_says_22 rfl (by decide) rfl ?_
    refine V_aload_n hc d_M0_says_23 rfl 1 rfl ?_
    refine V_aload_n hc d_M0_says_24 rfl 1 rfl ?_
    refine V_iload_n hc d_M0_says_25 rfl 0 rfl ?_
    refine V_callVl (As := [.int r5]) (st := [.ref (a 0)]) hc TS_good NS_nest (fun _ h => h) (c_M0_made l K cA D a r5 u6) k_728 k_10 k_731 k_730 kp_M0_made 0 eM_0 rfl q_M0_made (by decide) (Nat.zero_le _) (Nat.zero_le _) rfl (Nat.le_of_ble_eq_true rfl) d_M0_says_26 hw (fun r7 u8 hw => ?_)
    try dsimp only at hw
    refine V_callVl (As := [.long r7]) (st := []) hc TS_good NS_nest (fun _ h => h) (c_M0_kept l K cA D a r7 u8) k_740 k_10 k_743 k_742 kp_M0_kept 0 eM_0 rfl q_M0_kept (by decide) (Nat.zero_le _) (Nat.zero_le _) rfl (Nat.le_of_ble_eq_true rfl) d_M0_says_29 hw (fun r9 u10 hw => ?_)
    try dsimp only at hw
    exact V_lret hc NS_nest hr hw d_M0_says_32
def w_M0_stored_19 (K : Nat) (Q : Int64 → St → Prop) : Nat → Int32 → Int32 → St → Prop
  | 0, _, _, _ => False
  | n + 1, v1, v2, z => ((v2 < 0 → Q (-1) z) ∧ (¬ v2 < 0 → (vp_in v2 160 ∧ w_M0_speaks K (g_A z 17 (v2 : Int32).toNatClampNeg) v1 z (fun r3 u4 => ((r3 = 0 → w_M0_stored_19 K Q n v1 (v2 + (-1)) u4) ∧ (¬ r3 = 0 → (vp_in v2 160 ∧ w_M0_says K (g_A u4 17 (v2 : Int32).toNatClampNeg) v1 u4 (fun r5 u6 => Q r5 u6))))))))
def w_M0_stored (K : Nat) (x1 : Int32) (z : St) (Q : Int64 → St → Prop) : Prop :=
  w_M0_isKey K x1 z (fun r1 u2 => ((¬ r1 = 0 → (∃ n9, w_M0_stored_19 K Q n9 x1 (g_I u2 19 - 1) u2)) ∧ (r1 = 0 → Q (-1) u2)))
set_option maxHeartbeats 4000000 in
set_option maxRecDepth 100000 in
theorem l_M0_stored_19 (l : Launch) (K : Nat) (cA : Nat → ClassId) (D : va_G) (a : Nat → Nat) (Q : Int64 → St → Prop) (p : Program) (e : Env) (s : State) (m : MethodId) (args : Array Value) (below : List Frame) (meth : Method) (c : Code) (hc : Cx TS NS CL D (tyX cA) p s m args meth c b_M0_stored 3 y_M0_stored.cls) (hr : meth.sig.returnType = (some .long)) : ∀ (n : Nat) (v1 : Int32) (v2 : Int32) (z : St), w_M0_stored_19 K Q n v1 v2 z → V CL p l e { frames := 4, cells := 0, slots := 0, locals := 90 } s m args below meth c 3 D (AX 19 a s.heap.size) 0 0 (MQ below (Qg NS CL D (tyX cA) (WM K cA a) (AX 19 a s.heap.size) mkL Q) args s 0 0 (AX 19 a s.heap.size)) (WM K cA a z) 19 [(0, .ref (a 0)), (1, .int v1), (2, .int v2)] [] := by
  intro n
  induction n with
  | zero =>
    intro v1 v2 z hw
    exact hw.elim
  | succ n ih =>
    intro v1 v2 z hw
    unfold w_M0_stored_19 at hw
    refine V_iload_n hc d_M0_stored_19 rfl 2 rfl ?_
    refine V_if_lt (tgt := 55) hc d_M0_stored_20 rfl (fun h => ?_) (fun h => ?_)
    · replace hw := hw.1 h
      refine V_ldc2 (v := (-1)) hc k_711 d_M0_stored_55 ?_
      exact V_lret hc NS_nest hr hw d_M0_stored_58
    · replace hw := hw.2 h
      refine V_aload_n hc d_M0_stored_23 rfl 0 rfl ?_
      refine V_aload_n hc d_M0_stored_24 rfl 0 rfl ?_
      refine V_get (v := .ref (a 18)) hc uin_M0 0 eM_0 rfl 37 (by decide) k_622 rfl d_M0_stored_25 ?_
      refine V_iload_n hc d_M0_stored_28 rfl 2 rfl ?_
      obtain ⟨hi, hw⟩ := hw
      refine V_iald (x := g_A z 17 (v2 : Int32).toNatClampNeg) hc 18 0 eM_18 rfl hi rfl d_M0_stored_29 ?_
      refine V_iload_n hc d_M0_stored_30 rfl 1 rfl ?_
      refine V_callVi (As := [.int (g_A z 17 (v2 : Int32).toNatClampNeg), .int v1]) (st := []) hc TS_good NS_nest (fun _ h => h) (c_M0_speaks l K cA D a (g_A z 17 (v2 : Int32).toNatClampNeg) v1 z) k_712 k_10 k_715 k_714 kp_M0_speaks 0 eM_0 rfl q_M0_speaks (by decide) (Nat.zero_le _) (Nat.zero_le _) rfl (Nat.le_of_ble_eq_true rfl) d_M0_stored_31 hw (fun r3 u4 hw => ?_)
      try dsimp only at hw
      refine V_if_eq (tgt := 49) hc d_M0_stored_34 rfl (fun h => ?_) (fun h => ?_)
      · replace hw := hw.1 h
        refine V_iinc (v := (v2 + (-1))) hc [(2, .int (v2 + (-1))), (0, .ref (a 0)), (1, .int v1)] d_M0_stored_49 2 rfl (by rfl) (by decide) rfl ?_
        refine V_goto (tgt := 19) hc d_M0_stored_52 rfl ?_
        refine V_sub [1, 2, 0] [(0, .ref (a 0)), (1, .int v1), (2, .int (v2 + (-1)))] rfl ?_
        exact ih v1 (v2 + (-1)) u4 hw
      · replace hw := hw.2 h
        refine V_aload_n hc d_M0_stored_37 rfl 0 rfl ?_
        refine V_aload_n hc d_M0_stored_38 rfl 0 rfl ?_
        refine V_get (v := .ref (a 18)) hc uin_M0 0 eM_0 rfl 37 (by decide) k_622 rfl d_M0_stored_39 ?_
        refine V_iload_n hc d_M0_stored_42 rfl 2 rfl ?_
        obtain ⟨hi, hw⟩ := hw
        refine V_iald (x := g_A u4 17 (v2 : Int32).toNatClampNeg) hc 18 0 eM_18 rfl hi rfl d_M0_stored_43 ?_
        refine V_iload_n hc d_M0_stored_44 rfl 1 rfl ?_
        refine V_callVl (As := [.int (g_A u4 17 (v2 : Int32).toNatClampNeg), .int v1]) (st := []) hc TS_good NS_nest (fun _ h => h) (c_M0_says l K cA D a (g_A u4 17 (v2 : Int32).toNatClampNeg) v1 u4) k_736 k_10 k_739 k_738 kp_M0_says 0 eM_0 rfl q_M0_says (by decide) (Nat.zero_le _) (Nat.zero_le _) rfl (Nat.le_of_ble_eq_true rfl) d_M0_stored_45 hw (fun r5 u6 hw => ?_)
        try dsimp only at hw
        exact V_lret hc NS_nest hr hw d_M0_stored_48
set_option maxHeartbeats 4000000 in
set_option maxRecDepth 100000 in
theorem c_M0_stored (l : Launch) (K : Nat) (cA : Nat → ClassId) (D : va_G) (a : Nat → Nat) (x1 : Int32) (z : St) : Ct l NS CL D (tyX cA) 19 a (WM K cA a) mkL y_M0_stored (.code y_M0_stored b_M0_stored 3 (some .long) :: TS) { frames := 4, cells := 0, slots := 0, locals := 90 } [.ref (a 0), .int x1] z (w_M0_stored K x1 z) := by
  refine Ct.of (by decide) (Nat.le_of_ble_eq_true rfl) adM ?_
  intro Q p e s m args below meth c hc hr hw
  unfold w_M0_stored at hw
  refine V_st _ [(0, .ref (a 0)), (1, .int x1)] _ rfl rfl rfl ?_
  refine V_aload_n hc d_M0_stored_0 rfl 0 rfl ?_
  refine V_iload_n hc d_M0_stored_1 rfl 1 rfl ?_
  refine V_callVi (As := [.int x1]) (st := []) hc TS_good NS_nest (fun _ h => h) (c_M0_isKey l K cA D a x1 z) k_707 k_10 k_710 k_709 kp_M0_isKey 0 eM_0 rfl q_M0_isKey (by decide) (Nat.zero_le _) (Nat.zero_le _) rfl (Nat.le_of_ble_eq_true rfl) d_M0_stored_2 hw (fun r1 u2 hw => ?_)
  try dsimp only at hw
  refine V_if_ne (tgt := 12) hc d_M0_stored_5 rfl (fun h => ?_) (fun h => ?_)
  · replace hw := hw.1 h
    refine V_aload_n hc d_M0_stored_12 rfl 0 rfl ?_
    refine V_get (v := .int (g_I u2 19)) hc uin_M0 0 eM_0 rfl 36 (by decide) k_621 rfl d_M0_stored_13 ?_
    refine V_iconst (v := 1) hc d_M0_stored_16 (by decide) ?_
    refine V_isub hc d_M0_stored_17 rfl ?_
    refine V_istore_n hc [(2, .int (g_I u2 19 - 1)), (0, .ref (a 0)), (1, .int x1)] d_M0_stored_18 rfl (by decide) rfl ?_
    obtain ⟨n9, hw⟩ := hw
    refine V_sub [1, 2, 0] [(0, .ref (a 0)), (1, .int x1), (2, .int (g_I u2 19 - 1))] rfl ?_
    exact l_M0_stored_19 l K cA D a Q p e s m args below meth c hc hr n9 x1 (g_I u2 19 - 1) u2 hw
  · replace hw := hw.2 h
    refine V_ldc2 (v := (-1)) hc k_711 d_M0_stored_8 ?_
    exact V_lret hc NS_nest hr hw d_M0_stored_11
def w_M0_view_5 (K : Nat) (Q : Int64 → St → Prop) : Nat → Int32 → Int32 → Int64 → Int32 → St → Prop
  | 0, _, _, _, _, _ => False
  | n + 1, v1, v2, v3, v5, z => ((g_I z 0 ≤ v5 → Q v3 z) ∧ (¬ g_I z 0 ≤ v5 → ((v1 < 0 → Q v3 z) ∧ (¬ v1 < 0 → ((3 < v1 → Q v3 z) ∧ (¬ 3 < v1 → w_M0_stored K v5 z (fun r1 u2 => (((lg_cmp r1 0) < 0 → w_M0_view_5 K Q n v1 v2 (v3 + 0) (v5 + 1) u2) ∧ (¬ (lg_cmp r1 0) < 0 → ((¬ (lg_cmp (r1 >>> ((32 : Int32).toInt64 &&& 63)) ((v1 : Int32).toInt64)) = 0 → w_M0_view_5 K Q n v1 v2 (v3 + 0) (v5 + 1) u2) ∧ ((lg_cmp (r1 >>> ((32 : Int32).toInt64 &&& 63)) ((v1 : Int32).toInt64)) = 0 → ((v2 = 0 → w_M0_view_5 K Q n v1 v2 (v3 + 1) (v5 + 1) u2) ∧ (¬ v2 = 0 → w_M0_view_5 K Q n v1 v2 (v3 + ((r1 : Int64).toInt32 : Int32).toInt64) (v5 + 1) u2)))))))))))))
def w_M0_view (K : Nat) (x1 : Int32) (x2 : Int32) (z : St) (Q : Int64 → St → Prop) : Prop :=
  (∃ n9, w_M0_view_5 K Q n9 x1 x2 0 0 z)
set_option maxHeartbeats 4000000 in
set_option maxRecDepth 100000 in
theorem l_M0_view_5 (l : Launch) (K : Nat) (cA : Nat → ClassId) (D : va_G) (a : Nat → Nat) (Q : Int64 → St → Prop) (p : Program) (e : Env) (s : State) (m : MethodId) (args : Array Value) (below : List Frame) (meth : Method) (c : Code) (hc : Cx TS NS CL D (tyX cA) p s m args meth c b_M0_view 9 y_M0_view.cls) (hr : meth.sig.returnType = (some .long)) : ∀ (n : Nat) (v1 : Int32) (v2 : Int32) (v3 : Int64) (v5 : Int32) (z : St), w_M0_view_5 K Q n v1 v2 v3 v5 z → V CL p l e { frames := 5, cells := 0, slots := 0, locals := 112 } s m args below meth c 9 D (AX 19 a s.heap.size) 0 0 (MQ below (Qg NS CL D (tyX cA) (WM K cA a) (AX 19 a s.heap.size) mkL Q) args s 0 0 (AX 19 a s.heap.size)) (WM K cA a z) 5 [(0, .ref (a 0)), (1, .int v1), (2, .int v2), (3, .long v3), (5, .int v5)] [] := by
  intro n
  induction n with
  | zero =>
    intro v1 v2 v3 v5 z hw
    exact hw.elim
  | succ n ih =>
    intro v1 v2 v3 v5 z hw
    unfold w_M0_view_5 at hw
    refine V_iload hc d_M0_view_5 4 rfl ?_
    refine V_aload_n hc d_M0_view_7 rfl 0 rfl ?_
    refine V_get (v := .int (g_I z 0)) hc uin_M0 0 eM_0 rfl 0 (by decide) k_585 rfl d_M0_view_8 ?_
    refine V_icmp_ge (tgt := 86) hc d_M0_view_11 rfl (fun h => ?_) (fun h => ?_)
    · replace hw := hw.1 h
      refine V_lload_n hc d_M0_view_86 rfl 3 rfl ?_
      exact V_lret hc NS_nest hr hw d_M0_view_87
    · replace hw := hw.2 h
      refine V_iload_n hc d_M0_view_14 rfl 1 rfl ?_
      refine V_if_lt (tgt := 86) hc d_M0_view_15 rfl (fun h => ?_) (fun h => ?_)
      · replace hw := hw.1 h
        refine V_lload_n hc d_M0_view_86 rfl 3 rfl ?_
        exact V_lret hc NS_nest hr hw d_M0_view_87
      · replace hw := hw.2 h
        refine V_iload_n hc d_M0_view_18 rfl 1 rfl ?_
        refine V_iconst (v := 3) hc d_M0_view_19 (by decide) ?_
        refine V_icmp_gt (tgt := 86) hc d_M0_view_20 rfl (fun h => ?_) (fun h => ?_)
        · replace hw := hw.1 h
          refine V_lload_n hc d_M0_view_86 rfl 3 rfl ?_
          exact V_lret hc NS_nest hr hw d_M0_view_87
        · replace hw := hw.2 h
          refine V_aload_n hc d_M0_view_23 rfl 0 rfl ?_
          refine V_iload hc d_M0_view_24 4 rfl ?_
          refine V_callVl (As := [.int v5]) (st := []) hc TS_good NS_nest (fun _ h => h) (c_M0_stored l K cA D a v5 z) k_748 k_10 k_706 k_704 k_705 0 eM_0 rfl q_M0_stored (by decide) (Nat.zero_le _) (Nat.zero_le _) rfl (Nat.le_of_ble_eq_true rfl) d_M0_view_26 hw (fun r1 u2 hw => ?_)
          try dsimp only at hw
          refine V_lstore hc [(6, .long r1), (0, .ref (a 0)), (1, .int v1), (2, .int v2), (3, .long v3), (5, .int v5)] d_M0_view_29 (by decide) rfl ?_
          refine V_lload hc d_M0_view_31 0 rfl ?_
          refine V_lconst (v := 0) hc d_M0_view_33 (by decide) ?_
          refine V_lcmp hc d_M0_view_34 rfl ?_
          refine V_if_lt (tgt := 53) hc d_M0_view_35 rfl (fun h => ?_) (fun h => ?_)
          · replace hw := hw.1 h
            refine V_iconst (v := 0) hc d_M0_view_53 (by decide) ?_
            refine V_istore hc [(8, .int 0), (6, .long r1), (0, .ref (a 0)), (1, .int v1), (2, .int v2), (3, .long v3), (5, .int v5)] d_M0_view_54 (by decide) rfl ?_
            refine V_lload_n hc d_M0_view_56 rfl 5 rfl ?_
            refine V_iload hc d_M0_view_57 0 rfl ?_
            refine V_if_ne (tgt := 66) hc d_M0_view_59 rfl (fun h => absurd h (by decide)) (fun _ => ?_)
            refine V_lconst (v := 0) hc d_M0_view_62 (by decide) ?_
            refine V_goto (tgt := 78) hc d_M0_view_63 rfl ?_
            refine V_ladd hc d_M0_view_78 rfl ?_
            refine V_lstore_n hc [(3, .long (v3 + 0)), (8, .int 0), (6, .long r1), (0, .ref (a 0)), (1, .int v1), (2, .int v2), (5, .int v5)] d_M0_view_79 rfl (by decide) rfl ?_
            refine V_iinc (v := (v5 + 1)) hc [(5, .int (v5 + 1)), (3, .long (v3 + 0)), (8, .int 0), (6, .long r1), (0, .ref (a 0)), (1, .int v1), (2, .int v2)] d_M0_view_80 6 rfl (by rfl) (by decide) rfl ?_
            refine V_goto (tgt := 5) hc d_M0_view_83 rfl ?_
            refine V_sub [4, 5, 6, 1, 0] [(0, .ref (a 0)), (1, .int v1), (2, .int v2), (3, .long (v3 + 0)), (5, .int (v5 + 1))] rfl ?_
            exact ih v1 v2 (v3 + 0) (v5 + 1) u2 hw
          · replace hw := hw.2 h
            refine V_lload hc d_M0_view_38 0 rfl ?_
            refine V_bipush (v := 32) hc d_M0_view_40 (by decide) ?_
            refine V_lshr hc d_M0_view_42 rfl ?_
            refine V_iload_n hc d_M0_view_43 rfl 2 rfl ?_
            refine V_i2l hc d_M0_view_44 rfl ?_
            refine V_lcmp hc d_M0_view_45 rfl ?_
            refine V_if_ne (tgt := 53) hc d_M0_view_46 rfl (fun h => ?_) (fun h => ?_)
            · replace hw := hw.1 h
              refine V_iconst (v := 0) hc d_M0_view_53 (by decide) ?_
              refine V_istore hc [(8, .int 0), (6, .long r1), (0, .ref (a 0)), (1, .int v1), (2, .int v2), (3, .long v3), (5, .int v5)] d_M0_view_54 (by decide) rfl ?_
              refine V_lload_n hc d_M0_view_56 rfl 5 rfl ?_
              refine V_iload hc d_M0_view_57 0 rfl ?_
              refine V_if_ne (tgt := 66) hc d_M0_view_59 rfl (fun h => absurd h (by decide)) (fun _ => ?_)
              refine V_lconst (v := 0) hc d_M0_view_62 (by decide) ?_
              refine V_goto (tgt := 78) hc d_M0_view_63 rfl ?_
              refine V_ladd hc d_M0_view_78 rfl ?_
              refine V_lstore_n hc [(3, .long (v3 + 0)), (8, .int 0), (6, .long r1), (0, .ref (a 0)), (1, .int v1), (2, .int v2), (5, .int v5)] d_M0_view_79 rfl (by decide) rfl ?_
              refine V_iinc (v := (v5 + 1)) hc [(5, .int (v5 + 1)), (3, .long (v3 + 0)), (8, .int 0), (6, .long r1), (0, .ref (a 0)), (1, .int v1), (2, .int v2)] d_M0_view_80 6 rfl (by rfl) (by decide) rfl ?_
              refine V_goto (tgt := 5) hc d_M0_view_83 rfl ?_
              refine V_sub [4, 5, 6, 1, 0] [(0, .ref (a 0)), (1, .int v1), (2, .int v2), (3, .long (v3 + 0)), (5, .int (v5 + 1))] rfl ?_
              exact ih v1 v2 (v3 + 0) (v5 + 1) u2 hw
            · replace hw := hw.2 h
              refine V_iconst (v := 1) hc d_M0_view_49 (by decide) ?_
              refine V_goto (tgt := 54) hc d_M0_view_50 rfl ?_
              refine V_istore hc [(8, .int 1), (6, .long r1), (0, .ref (a 0)), (1, .int v1), (2, .int v2), (3, .long v3), (5, .int v5)] d_M0_view_54 (by decide) rfl ?_
              refine V_lload_n hc d_M0_view_56 rfl 5 rfl ?_
              refine V_iload hc d_M0_view_57 0 rfl ?_
              refine V_if_ne (tgt := 66) hc d_M0_view_59 rfl (fun _ => ?_) (fun h => absurd h (by decide))
              refine V_iload_n hc d_M0_view_66 rfl 4 rfl ?_
              refine V_if_eq (tgt := 77) hc d_M0_view_67 rfl (fun h => ?_) (fun h => ?_)
              · replace hw := hw.1 h
                refine V_lconst (v := 1) hc d_M0_view_77 (by decide) ?_
                refine V_ladd hc d_M0_view_78 rfl ?_
                refine V_lstore_n hc [(3, .long (v3 + 1)), (8, .int 1), (6, .long r1), (0, .ref (a 0)), (1, .int v1), (2, .int v2), (5, .int v5)] d_M0_view_79 rfl (by decide) rfl ?_
                refine V_iinc (v := (v5 + 1)) hc [(5, .int (v5 + 1)), (3, .long (v3 + 1)), (8, .int 1), (6, .long r1), (0, .ref (a 0)), (1, .int v1), (2, .int v2)] d_M0_view_80 6 rfl (by rfl) (by decide) rfl ?_
                refine V_goto (tgt := 5) hc d_M0_view_83 rfl ?_
                refine V_sub [4, 5, 6, 1, 0] [(0, .ref (a 0)), (1, .int v1), (2, .int v2), (3, .long (v3 + 1)), (5, .int (v5 + 1))] rfl ?_
                exact ih v1 v2 (v3 + 1) (v5 + 1) u2 hw
              · replace hw := hw.2 h
                refine V_lload hc d_M0_view_70 1 rfl ?_
                refine V_l2i hc d_M0_view_72 rfl ?_
                refine V_i2l hc d_M0_view_73 rfl ?_
                refine V_goto (tgt := 78) hc d_M0_view_74 rfl ?_
                refine V_ladd hc d_M0_view_78 rfl ?_
                refine V_lstore_n hc [(3, .long (v3 + ((r1 : Int64).toInt32 : Int32).toInt64)), (8, .int 1), (6, .long r1), (0, .ref (a 0)), (1, .int v1), (2, .int v2), (5, .int v5)] d_M0_view_79 rfl (by decide) rfl ?_
                refine V_iinc (v := (v5 + 1)) hc [(5, .int (v5 + 1)), (3, .long (v3 + ((r1 : Int64).toInt32 : Int32).toInt64)), (8, .int 1), (6, .long r1), (0, .ref (a 0)), (1, .int v1), (2, .int v2)] d_M0_view_80 6 rfl (by rfl) (by decide) rfl ?_
                refine V_goto (tgt := 5) hc d_M0_view_83 rfl ?_
                refine V_sub [4, 5, 6, 1, 0] [(0, .ref (a 0)), (1, .int v1), (2, .int v2), (3, .long (v3 + ((r1 : Int64).toInt32 : Int32).toInt64)), (5, .int (v5 + 1))] rfl ?_
                exact ih v1 v2 (v3 + ((r1 : Int64).toInt32 : Int32).toInt64) (v5 + 1) u2 hw
set_option maxHeartbeats 4000000 in
set_option maxRecDepth 100000 in
theorem c_M0_view (l : Launch) (K : Nat) (cA : Nat → ClassId) (D : va_G) (a : Nat → Nat) (x1 : Int32) (x2 : Int32) (z : St) : Ct l NS CL D (tyX cA) 19 a (WM K cA a) mkL y_M0_view (.code y_M0_view b_M0_view 9 (some .long) :: TS) { frames := 5, cells := 0, slots := 0, locals := 112 } [.ref (a 0), .int x1, .int x2] z (w_M0_view K x1 x2 z) := by
  refine Ct.of (by decide) (Nat.le_of_ble_eq_true rfl) adM ?_
  intro Q p e s m args below meth c hc hr hw
  unfold w_M0_view at hw
  refine V_st _ [(0, .ref (a 0)), (1, .int x1), (2, .int x2)] _ rfl rfl rfl ?_
  refine V_lconst (v := 0) hc d_M0_view_0 (by decide) ?_
  refine V_lstore_n hc [(3, .long 0), (0, .ref (a 0)), (1, .int x1), (2, .int x2)] d_M0_view_1 rfl (by decide) rfl ?_
  refine V_iconst (v := 0) hc d_M0_view_2 (by decide) ?_
  refine V_istore hc [(5, .int 0), (3, .long 0), (0, .ref (a 0)), (1, .int x1), (2, .int x2)] d_M0_view_3 (by decide) rfl ?_
  obtain ⟨n9, hw⟩ := hw
  refine V_sub [2, 3, 4, 1, 0] [(0, .ref (a 0)), (1, .int x1), (2, .int x2), (3, .long 0), (5, .int 0)] rfl ?_
  exact l_M0_view_5 l K cA D a Q p e s m args below meth c hc hr n9 x1 x2 0 0 z hw
def w_M0_position (K : Nat)  (z : St) (Q : Int32 → St → Prop) : Prop :=
  ((¬ g_I z 19 = 0 → (vp_in (g_I z 19 - 1) 160 ∧ Q (g_A z 17 ((g_I z 19 - 1) : Int32).toNatClampNeg) z)) ∧ (g_I z 19 = 0 → Q (-1) z))
set_option maxHeartbeats 4000000 in
set_option maxRecDepth 100000 in
theorem c_M0_position (l : Launch) (K : Nat) (cA : Nat → ClassId) (D : va_G) (a : Nat → Nat)  (z : St) : Ct l NS CL D (tyX cA) 19 a (WM K cA a) mkI y_M0_position (.code y_M0_position b_M0_position 1 (some .int) :: TS) { frames := 0, cells := 0, slots := 0, locals := 0 } [.ref (a 0)] z (w_M0_position K  z) := by
  refine Ct.of (by decide) (Nat.le_of_ble_eq_true rfl) adM ?_
  intro Q p e s m args below meth c hc hr hw
  unfold w_M0_position at hw
  refine V_st _ [(0, .ref (a 0))] _ rfl rfl rfl ?_
  refine V_aload_n hc d_M0_position_0 rfl 0 rfl ?_
  refine V_get (v := .int (g_I z 19)) hc uin_M0 0 eM_0 rfl 36 (by decide) k_621 rfl d_M0_position_1 ?_
  refine V_if_ne (tgt := 11) hc d_M0_position_4 rfl (fun h => ?_) (fun h => ?_)
  · replace hw := hw.1 h
    refine V_aload_n hc d_M0_position_11 rfl 0 rfl ?_
    refine V_get (v := .ref (a 18)) hc uin_M0 0 eM_0 rfl 37 (by decide) k_622 rfl d_M0_position_12 ?_
    refine V_aload_n hc d_M0_position_15 rfl 0 rfl ?_
    refine V_get (v := .int (g_I z 19)) hc uin_M0 0 eM_0 rfl 36 (by decide) k_621 rfl d_M0_position_16 ?_
    refine V_iconst (v := 1) hc d_M0_position_19 (by decide) ?_
    refine V_isub hc d_M0_position_20 rfl ?_
    obtain ⟨hi, hw⟩ := hw
    refine V_iald (x := g_A z 17 ((g_I z 19 - 1) : Int32).toNatClampNeg) hc 18 0 eM_18 rfl hi rfl d_M0_position_21 ?_
    exact V_iret hc NS_nest hr hw d_M0_position_22
  · replace hw := hw.2 h
    refine V_iconst (v := (-1)) hc d_M0_position_7 (by decide) ?_
    refine V_goto (tgt := 22) hc d_M0_position_8 rfl ?_
    exact V_iret hc NS_nest hr hw d_M0_position_22
def w_M0_progress_4 (K : Nat) (Q : Int32 → St → Prop) : Nat → Int32 → Int32 → St → Prop
  | 0, _, _, _ => False
  | n + 1, v1, v2, z => ((g_I z 19 ≤ v2 → ((g_I z 0 ≤ v1 → Q (g_I z 0) z) ∧ (¬ g_I z 0 ≤ v1 → Q v1 z))) ∧ (¬ g_I z 19 ≤ v2 → (vp_in v2 160 ∧ (vp_in (g_A z 17 (v2 : Int32).toNatClampNeg) 160 ∧ ((¬ (g_A z 0 ((g_A z 17 (v2 : Int32).toNatClampNeg) : Int32).toNatClampNeg) = 6 → w_M0_progress_4 K Q n v1 (v2 + 1) z) ∧ ((g_A z 0 ((g_A z 17 (v2 : Int32).toNatClampNeg) : Int32).toNatClampNeg) = 6 → w_M0_progress_4 K Q n (v1 + g_I z 1) (v2 + 1) z))))))
def w_M0_progress (K : Nat)  (z : St) (Q : Int32 → St → Prop) : Prop :=
  (∃ n9, w_M0_progress_4 K Q n9 0 0 z)
set_option maxHeartbeats 4000000 in
set_option maxRecDepth 100000 in
theorem l_M0_progress_4 (l : Launch) (K : Nat) (cA : Nat → ClassId) (D : va_G) (a : Nat → Nat) (Q : Int32 → St → Prop) (p : Program) (e : Env) (s : State) (m : MethodId) (args : Array Value) (below : List Frame) (meth : Method) (c : Code) (hc : Cx TS NS CL D (tyX cA) p s m args meth c b_M0_progress 3 y_M0_progress.cls) (hr : meth.sig.returnType = (some .int)) : ∀ (n : Nat) (v1 : Int32) (v2 : Int32) (z : St), w_M0_progress_4 K Q n v1 v2 z → V CL p l e { frames := 0, cells := 0, slots := 0, locals := 0 } s m args below meth c 3 D (AX 19 a s.heap.size) 0 0 (MQ below (Qg NS CL D (tyX cA) (WM K cA a) (AX 19 a s.heap.size) mkI Q) args s 0 0 (AX 19 a s.heap.size)) (WM K cA a z) 4 [(0, .ref (a 0)), (1, .int v1), (2, .int v2)] [] := by
  intro n
  induction n with
  | zero =>
    intro v1 v2 z hw
    exact hw.elim
  | succ n ih =>
    intro v1 v2 z hw
    unfold w_M0_progress_4 at hw
    refine V_iload_n hc d_M0_progress_4 rfl 2 rfl ?_
    refine V_aload_n hc d_M0_progress_5 rfl 0 rfl ?_
    refine V_get (v := .int (g_I z 19)) hc uin_M0 0 eM_0 rfl 36 (by decide) k_621 rfl d_M0_progress_6 ?_
    refine V_icmp_ge (tgt := 45) hc d_M0_progress_9 rfl (fun h => ?_) (fun h => ?_)
    · replace hw := hw.1 h
      refine V_iload_n hc d_M0_progress_45 rfl 1 rfl ?_
      refine V_aload_n hc d_M0_progress_46 rfl 0 rfl ?_
      refine V_get (v := .int (g_I z 0)) hc uin_M0 0 eM_0 rfl 0 (by decide) k_585 rfl d_M0_progress_47 ?_
      refine V_icmp_ge (tgt := 57) hc d_M0_progress_50 rfl (fun h => ?_) (fun h => ?_)
      · replace hw := hw.1 h
        refine V_aload_n hc d_M0_progress_57 rfl 0 rfl ?_
        refine V_get (v := .int (g_I z 0)) hc uin_M0 0 eM_0 rfl 0 (by decide) k_585 rfl d_M0_progress_58 ?_
        exact V_iret hc NS_nest hr hw d_M0_progress_61
      · replace hw := hw.2 h
        refine V_iload_n hc d_M0_progress_53 rfl 1 rfl ?_
        refine V_goto (tgt := 61) hc d_M0_progress_54 rfl ?_
        exact V_iret hc NS_nest hr hw d_M0_progress_61
    · replace hw := hw.2 h
      refine V_aload_n hc d_M0_progress_12 rfl 0 rfl ?_
      refine V_get (v := .ref (a 1)) hc uin_M0 0 eM_0 rfl 5 (by decide) k_590 rfl d_M0_progress_13 ?_
      refine V_aload_n hc d_M0_progress_16 rfl 0 rfl ?_
      refine V_get (v := .ref (a 18)) hc uin_M0 0 eM_0 rfl 37 (by decide) k_622 rfl d_M0_progress_17 ?_
      refine V_iload_n hc d_M0_progress_20 rfl 2 rfl ?_
      obtain ⟨hi, hw⟩ := hw
      refine V_iald (x := g_A z 17 (v2 : Int32).toNatClampNeg) hc 18 0 eM_18 rfl hi rfl d_M0_progress_21 ?_
      obtain ⟨hi, hw⟩ := hw
      refine V_iald (x := g_A z 0 ((g_A z 17 (v2 : Int32).toNatClampNeg) : Int32).toNatClampNeg) hc 1 0 eM_1 rfl hi rfl d_M0_progress_22 ?_
      refine V_bipush (v := 6) hc d_M0_progress_23 (by decide) ?_
      refine V_icmp_ne (tgt := 37) hc d_M0_progress_25 rfl (fun h => ?_) (fun h => ?_)
      · replace hw := hw.1 h
        refine V_iload_n hc d_M0_progress_37 rfl 1 rfl ?_
        refine V_istore_n hc [(1, .int v1), (0, .ref (a 0)), (2, .int v2)] d_M0_progress_38 rfl (by decide) rfl ?_
        refine V_iinc (v := (v2 + 1)) hc [(2, .int (v2 + 1)), (1, .int v1), (0, .ref (a 0))] d_M0_progress_39 2 rfl (by rfl) (by decide) rfl ?_
        refine V_goto (tgt := 4) hc d_M0_progress_42 rfl ?_
        refine V_sub [2, 1, 0] [(0, .ref (a 0)), (1, .int v1), (2, .int (v2 + 1))] rfl ?_
        exact ih v1 (v2 + 1) z hw
      · replace hw := hw.2 h
        refine V_iload_n hc d_M0_progress_28 rfl 1 rfl ?_
        refine V_aload_n hc d_M0_progress_29 rfl 0 rfl ?_
        refine V_get (v := .int (g_I z 1)) hc uin_M0 0 eM_0 rfl 1 (by decide) k_586 rfl d_M0_progress_30 ?_
        refine V_iadd hc d_M0_progress_33 rfl ?_
        refine V_goto (tgt := 38) hc d_M0_progress_34 rfl ?_
        refine V_istore_n hc [(1, .int (v1 + g_I z 1)), (0, .ref (a 0)), (2, .int v2)] d_M0_progress_38 rfl (by decide) rfl ?_
        refine V_iinc (v := (v2 + 1)) hc [(2, .int (v2 + 1)), (1, .int (v1 + g_I z 1)), (0, .ref (a 0))] d_M0_progress_39 2 rfl (by rfl) (by decide) rfl ?_
        refine V_goto (tgt := 4) hc d_M0_progress_42 rfl ?_
        refine V_sub [2, 1, 0] [(0, .ref (a 0)), (1, .int (v1 + g_I z 1)), (2, .int (v2 + 1))] rfl ?_
        exact ih (v1 + g_I z 1) (v2 + 1) z hw
set_option maxHeartbeats 4000000 in
set_option maxRecDepth 100000 in
theorem c_M0_progress (l : Launch) (K : Nat) (cA : Nat → ClassId) (D : va_G) (a : Nat → Nat)  (z : St) : Ct l NS CL D (tyX cA) 19 a (WM K cA a) mkI y_M0_progress (.code y_M0_progress b_M0_progress 3 (some .int) :: TS) { frames := 0, cells := 0, slots := 0, locals := 0 } [.ref (a 0)] z (w_M0_progress K  z) := by
  refine Ct.of (by decide) (Nat.le_of_ble_eq_true rfl) adM ?_
  intro Q p e s m args below meth c hc hr hw
  unfold w_M0_progress at hw
  refine V_st _ [(0, .ref (a 0))] _ rfl rfl rfl ?_
  refine V_iconst (v := 0) hc d_M0_progress_0 (by decide) ?_
  refine V_istore_n hc [(1, .int 0), (0, .ref (a 0))] d_M0_progress_1 rfl (by decide) rfl ?_
  refine V_iconst (v := 0) hc d_M0_progress_2 (by decide) ?_
  refine V_istore_n hc [(2, .int 0), (1, .int 0), (0, .ref (a 0))] d_M0_progress_3 rfl (by decide) rfl ?_
  obtain ⟨n9, hw⟩ := hw
  refine V_sub [2, 1, 0] [(0, .ref (a 0)), (1, .int 0), (2, .int 0)] rfl ?_
  exact l_M0_progress_4 l K cA D a Q p e s m args below meth c hc hr n9 0 0 z hw
def w_M0_room (K : Nat) (x1 : Int32) (x2 : Int32) (z : St) (Q : Int32 → St → Prop) : Prop :=
  ((((160 - g_I z 4) - x1) < (g_I z 6 + x2) → Q 0 z) ∧ (¬ ((160 - g_I z 4) - x1) < (g_I z 6 + x2) → Q 1 z))
set_option maxHeartbeats 4000000 in
set_option maxRecDepth 100000 in
theorem c_M0_room (l : Launch) (K : Nat) (cA : Nat → ClassId) (D : va_G) (a : Nat → Nat) (x1 : Int32) (x2 : Int32) (z : St) : Ct l NS CL D (tyX cA) 19 a (WM K cA a) mkI y_M0_room (.code y_M0_room b_M0_room 3 (some .boolean) :: TS) { frames := 0, cells := 0, slots := 0, locals := 0 } [.ref (a 0), .int x1, .int x2] z (w_M0_room K x1 x2 z) := by
  refine Ct.of (by decide) (Nat.le_of_ble_eq_true rfl) adM ?_
  intro Q p e s m args below meth c hc hr hw
  unfold w_M0_room at hw
  refine V_st _ [(0, .ref (a 0)), (1, .int x1), (2, .int x2)] _ rfl rfl rfl ?_
  refine V_sipush (v := 160) hc d_M0_room_0 (by decide) ?_
  refine V_aload_n hc d_M0_room_3 rfl 0 rfl ?_
  refine V_get (v := .int (g_I z 4)) hc uin_M0 0 eM_0 rfl 4 (by decide) k_589 rfl d_M0_room_4 ?_
  refine V_isub hc d_M0_room_7 rfl ?_
  refine V_iload_n hc d_M0_room_8 rfl 1 rfl ?_
  refine V_isub hc d_M0_room_9 rfl ?_
  refine V_aload_n hc d_M0_room_10 rfl 0 rfl ?_
  refine V_get (v := .int (g_I z 6)) hc uin_M0 0 eM_0 rfl 14 (by decide) k_599 rfl d_M0_room_11 ?_
  refine V_iload_n hc d_M0_room_14 rfl 2 rfl ?_
  refine V_iadd hc d_M0_room_15 rfl ?_
  refine V_icmp_lt (tgt := 23) hc d_M0_room_16 rfl (fun h => ?_) (fun h => ?_)
  · replace hw := hw.1 h
    refine V_iconst (v := 0) hc d_M0_room_23 (by decide) ?_
    exact V_zret hc NS_nest hr (by decide) hw d_M0_room_24
  · replace hw := hw.2 h
    refine V_iconst (v := 1) hc d_M0_room_19 (by decide) ?_
    refine V_goto (tgt := 24) hc d_M0_room_20 rfl ?_
    exact V_zret hc NS_nest hr (by decide) hw d_M0_room_24
def w_M0_begin (K : Nat)  (z : St) (Q : Int32 → St → Prop) : Prop :=
  ((4 ≤ g_I z 6 → Q (-4) z) ∧ (¬ 4 ≤ g_I z 6 → w_M0_room K 0 1 z (fun r1 u2 => ((¬ r1 = 0 → (vp_in (g_I u2 6) 4 ∧ Q ((g_I u2 5 + 1) - 1) (s_I (s_I (s_A u2 8 (g_I u2 6 : Int32).toNatClampNeg (g_I u2 5)) 6 (g_I u2 6 + 1)) 5 (g_I u2 5 + 1)))) ∧ (r1 = 0 → Q (-4) u2)))))
set_option maxHeartbeats 4000000 in
set_option maxRecDepth 100000 in
theorem c_M0_begin (l : Launch) (K : Nat) (cA : Nat → ClassId) (D : va_G) (a : Nat → Nat)  (z : St) : Ct l NS CL D (tyX cA) 19 a (WM K cA a) mkI y_M0_begin (.code y_M0_begin b_M0_begin 1 (some .int) :: TS) { frames := 1, cells := 0, slots := 0, locals := 22 } [.ref (a 0)] z (w_M0_begin K  z) := by
  refine Ct.of (by decide) (Nat.le_of_ble_eq_true rfl) adM ?_
  intro Q p e s m args below meth c hc hr hw
  unfold w_M0_begin at hw
  refine V_st _ [(0, .ref (a 0))] _ rfl rfl rfl ?_
  refine V_aload_n hc d_M0_begin_0 rfl 0 rfl ?_
  refine V_get (v := .int (g_I z 6)) hc uin_M0 0 eM_0 rfl 14 (by decide) k_599 rfl d_M0_begin_1 ?_
  refine V_iconst (v := 4) hc d_M0_begin_4 (by decide) ?_
  refine V_icmp_ge (tgt := 17) hc d_M0_begin_5 rfl (fun h => ?_) (fun h => ?_)
  · replace hw := hw.1 h
    refine V_bipush (v := (-4)) hc d_M0_begin_17 (by decide) ?_
    exact V_iret hc NS_nest hr hw d_M0_begin_19
  · replace hw := hw.2 h
    refine V_aload_n hc d_M0_begin_8 rfl 0 rfl ?_
    refine V_iconst (v := 0) hc d_M0_begin_9 (by decide) ?_
    refine V_iconst (v := 1) hc d_M0_begin_10 (by decide) ?_
    refine V_callVi (As := [.int 0, .int 1]) (st := []) hc TS_good NS_nest (fun _ h => h) (c_M0_room l K cA D a 0 1 z) k_761 k_10 k_764 k_763 kp_M0_room 0 eM_0 rfl q_M0_room (by decide) (Nat.zero_le _) (Nat.zero_le _) rfl (Nat.le_of_ble_eq_true rfl) d_M0_begin_11 hw (fun r1 u2 hw => ?_)
    try dsimp only at hw
    refine V_if_ne (tgt := 20) hc d_M0_begin_14 rfl (fun h => ?_) (fun h => ?_)
    · replace hw := hw.1 h
      refine V_aload_n hc d_M0_begin_20 rfl 0 rfl ?_
      refine V_get (v := .ref (a 9)) hc uin_M0 0 eM_0 rfl 15 (by decide) k_600 rfl d_M0_begin_21 ?_
      refine V_aload_n hc d_M0_begin_24 rfl 0 rfl ?_
      refine V_get (v := .int (g_I u2 6)) hc uin_M0 0 eM_0 rfl 14 (by decide) k_599 rfl d_M0_begin_25 ?_
      refine V_aload_n hc d_M0_begin_28 rfl 0 rfl ?_
      refine V_get (v := .int (g_I u2 5)) hc uin_M0 0 eM_0 rfl 13 (by decide) k_598 rfl d_M0_begin_29 ?_
      obtain ⟨hi, hw⟩ := hw
      refine V_iast hc 9 0 eM_9 rfl hi sM_9 d_M0_begin_32 ?_
      refine V_aload_n hc d_M0_begin_33 rfl 0 rfl ?_
      refine V_dup hc d_M0_begin_34 rfl ?_
      refine V_get (v := .int (g_I u2 6)) hc uin_M0 0 eM_0 rfl 14 (by decide) k_599 rfl d_M0_begin_35 ?_
      refine V_iconst (v := 1) hc d_M0_begin_38 (by decide) ?_
      refine V_iadd hc d_M0_begin_39 rfl ?_
      refine V_put (ty := .int) hc uin_M0 0 eM_0 rfl 14 (by decide) t_M0 t_M0_ok n_M0 k_599 rfl (by decide +kernel) rfl rfl (Nat.le_of_ble_eq_true rfl) iM_6 d_M0_begin_40 ?_
      refine V_aload_n hc d_M0_begin_43 rfl 0 rfl ?_
      refine V_dup hc d_M0_begin_44 rfl ?_
      refine V_get (v := .int (g_I u2 5)) hc uin_M0 0 eM_0 rfl 13 (by decide) k_598 rfl d_M0_begin_45 ?_
      refine V_iconst (v := 1) hc d_M0_begin_48 (by decide) ?_
      refine V_iadd hc d_M0_begin_49 rfl ?_
      refine V_put (ty := .int) hc uin_M0 0 eM_0 rfl 13 (by decide) t_M0 t_M0_ok n_M0 k_598 rfl (by decide +kernel) rfl rfl (Nat.le_of_ble_eq_true rfl) iM_5 d_M0_begin_50 ?_
      refine V_aload_n hc d_M0_begin_53 rfl 0 rfl ?_
      refine V_get (v := .int (g_I u2 5 + 1)) hc uin_M0 0 eM_0 rfl 13 (by decide) k_598 rfl d_M0_begin_54 ?_
      refine V_iconst (v := 1) hc d_M0_begin_57 (by decide) ?_
      refine V_isub hc d_M0_begin_58 rfl ?_
      exact V_iret hc NS_nest hr hw d_M0_begin_59
    · replace hw := hw.2 h
      refine V_bipush (v := (-4)) hc d_M0_begin_17 (by decide) ?_
      exact V_iret hc NS_nest hr hw d_M0_begin_19
def w_M0_isOpen_4 (K : Nat) (Q : Int32 → St → Prop) : Nat → Int32 → Int32 → Int32 → St → Prop
  | 0, _, _, _, _ => False
  | n + 1, v1, v2, v3, z => ((g_I z 6 ≤ v3 → (narrow .boolean (.int v2) = .int v2 ∧ Q v2 z)) ∧ (¬ g_I z 6 ≤ v3 → ((¬ v2 = 0 → w_M0_isOpen_4 K Q n v1 1 (v3 + 1) z) ∧ (v2 = 0 → (vp_in v3 4 ∧ ((¬ (g_A z 8 (v3 : Int32).toNatClampNeg) = v1 → w_M0_isOpen_4 K Q n v1 0 (v3 + 1) z) ∧ ((g_A z 8 (v3 : Int32).toNatClampNeg) = v1 → w_M0_isOpen_4 K Q n v1 1 (v3 + 1) z)))))))
def w_M0_isOpen (K : Nat) (x1 : Int32) (z : St) (Q : Int32 → St → Prop) : Prop :=
  (∃ n9, w_M0_isOpen_4 K Q n9 x1 0 0 z)
set_option maxHeartbeats 4000000 in
set_option maxRecDepth 100000 in
theorem l_M0_isOpen_4 (l : Launch) (K : Nat) (cA : Nat → ClassId) (D : va_G) (a : Nat → Nat) (Q : Int32 → St → Prop) (p : Program) (e : Env) (s : State) (m : MethodId) (args : Array Value) (below : List Frame) (meth : Method) (c : Code) (hc : Cx TS NS CL D (tyX cA) p s m args meth c b_M0_isOpen 4 y_M0_isOpen.cls) (hr : meth.sig.returnType = (some .boolean)) : ∀ (n : Nat) (v1 : Int32) (v2 : Int32) (v3 : Int32) (z : St), w_M0_isOpen_4 K Q n v1 v2 v3 z → V CL p l e { frames := 0, cells := 0, slots := 0, locals := 0 } s m args below meth c 4 D (AX 19 a s.heap.size) 0 0 (MQ below (Qg NS CL D (tyX cA) (WM K cA a) (AX 19 a s.heap.size) mkI Q) args s 0 0 (AX 19 a s.heap.size)) (WM K cA a z) 4 [(0, .ref (a 0)), (1, .int v1), (2, .int v2), (3, .int v3)] [] := by
  intro n
  induction n with
  | zero =>
    intro v1 v2 v3 z hw
    exact hw.elim
  | succ n ih =>
    intro v1 v2 v3 z hw
    unfold w_M0_isOpen_4 at hw
    refine V_iload_n hc d_M0_isOpen_4 rfl 3 rfl ?_
    refine V_aload_n hc d_M0_isOpen_5 rfl 0 rfl ?_
    refine V_get (v := .int (g_I z 6)) hc uin_M0 0 eM_0 rfl 14 (by decide) k_599 rfl d_M0_isOpen_6 ?_
    refine V_icmp_ge (tgt := 38) hc d_M0_isOpen_9 rfl (fun h => ?_) (fun h => ?_)
    · replace hw := hw.1 h
      refine V_iload_n hc d_M0_isOpen_38 rfl 2 rfl ?_
      exact V_zret hc NS_nest hr hw.1 hw.2 d_M0_isOpen_39
    · replace hw := hw.2 h
      refine V_iload_n hc d_M0_isOpen_12 rfl 2 rfl ?_
      refine V_if_ne (tgt := 26) hc d_M0_isOpen_13 rfl (fun h => ?_) (fun h => ?_)
      · replace hw := hw.1 h
        refine V_iconst (v := 1) hc d_M0_isOpen_26 (by decide) ?_
        refine V_goto (tgt := 31) hc d_M0_isOpen_27 rfl ?_
        refine V_istore_n hc [(2, .int 1), (0, .ref (a 0)), (1, .int v1), (3, .int v3)] d_M0_isOpen_31 rfl (by decide) rfl ?_
        refine V_iinc (v := (v3 + 1)) hc [(3, .int (v3 + 1)), (2, .int 1), (0, .ref (a 0)), (1, .int v1)] d_M0_isOpen_32 3 rfl (by rfl) (by decide) rfl ?_
        refine V_goto (tgt := 4) hc d_M0_isOpen_35 rfl ?_
        refine V_sub [2, 3, 1, 0] [(0, .ref (a 0)), (1, .int v1), (2, .int 1), (3, .int (v3 + 1))] rfl ?_
        exact ih v1 1 (v3 + 1) z hw
      · replace hw := hw.2 h
        refine V_aload_n hc d_M0_isOpen_16 rfl 0 rfl ?_
        refine V_get (v := .ref (a 9)) hc uin_M0 0 eM_0 rfl 15 (by decide) k_600 rfl d_M0_isOpen_17 ?_
        refine V_iload_n hc d_M0_isOpen_20 rfl 3 rfl ?_
        obtain ⟨hi, hw⟩ := hw
        refine V_iald (x := g_A z 8 (v3 : Int32).toNatClampNeg) hc 9 0 eM_9 rfl hi rfl d_M0_isOpen_21 ?_
        refine V_iload_n hc d_M0_isOpen_22 rfl 1 rfl ?_
        refine V_icmp_ne (tgt := 30) hc d_M0_isOpen_23 rfl (fun h => ?_) (fun h => ?_)
        · replace hw := hw.1 h
          refine V_iconst (v := 0) hc d_M0_isOpen_30 (by decide) ?_
          refine V_istore_n hc [(2, .int 0), (0, .ref (a 0)), (1, .int v1), (3, .int v3)] d_M0_isOpen_31 rfl (by decide) rfl ?_
          refine V_iinc (v := (v3 + 1)) hc [(3, .int (v3 + 1)), (2, .int 0), (0, .ref (a 0)), (1, .int v1)] d_M0_isOpen_32 3 rfl (by rfl) (by decide) rfl ?_
          refine V_goto (tgt := 4) hc d_M0_isOpen_35 rfl ?_
          refine V_sub [2, 3, 1, 0] [(0, .ref (a 0)), (1, .int v1), (2, .int 0), (3, .int (v3 + 1))] rfl ?_
          exact ih v1 0 (v3 + 1) z hw
        · replace hw := hw.2 h
          refine V_iconst (v := 1) hc d_M0_isOpen_26 (by decide) ?_
          refine V_goto (tgt := 31) hc d_M0_isOpen_27 rfl ?_
          refine V_istore_n hc [(2, .int 1), (0, .ref (a 0)), (1, .int v1), (3, .int v3)] d_M0_isOpen_31 rfl (by decide) rfl ?_
          refine V_iinc (v := (v3 + 1)) hc [(3, .int (v3 + 1)), (2, .int 1), (0, .ref (a 0)), (1, .int v1)] d_M0_isOpen_32 3 rfl (by rfl) (by decide) rfl ?_
          refine V_goto (tgt := 4) hc d_M0_isOpen_35 rfl ?_
          refine V_sub [2, 3, 1, 0] [(0, .ref (a 0)), (1, .int v1), (2, .int 1), (3, .int (v3 + 1))] rfl ?_
          exact ih v1 1 (v3 + 1) z hw
set_option maxHeartbeats 4000000 in
set_option maxRecDepth 100000 in
theorem c_M0_isOpen (l : Launch) (K : Nat) (cA : Nat → ClassId) (D : va_G) (a : Nat → Nat) (x1 : Int32) (z : St) : Ct l NS CL D (tyX cA) 19 a (WM K cA a) mkI y_M0_isOpen (.code y_M0_isOpen b_M0_isOpen 4 (some .boolean) :: TS) { frames := 0, cells := 0, slots := 0, locals := 0 } [.ref (a 0), .int x1] z (w_M0_isOpen K x1 z) := by
  refine Ct.of (by decide) (Nat.le_of_ble_eq_true rfl) adM ?_
  intro Q p e s m args below meth c hc hr hw
  unfold w_M0_isOpen at hw
  refine V_st _ [(0, .ref (a 0)), (1, .int x1)] _ rfl rfl rfl ?_
  refine V_iconst (v := 0) hc d_M0_isOpen_0 (by decide) ?_
  refine V_istore_n hc [(2, .int 0), (0, .ref (a 0)), (1, .int x1)] d_M0_isOpen_1 rfl (by decide) rfl ?_
  refine V_iconst (v := 0) hc d_M0_isOpen_2 (by decide) ?_
  refine V_istore_n hc [(3, .int 0), (2, .int 0), (0, .ref (a 0)), (1, .int x1)] d_M0_isOpen_3 rfl (by decide) rfl ?_
  obtain ⟨n9, hw⟩ := hw
  refine V_sub [2, 3, 1, 0] [(0, .ref (a 0)), (1, .int x1), (2, .int 0), (3, .int 0)] rfl ?_
  exact l_M0_isOpen_4 l K cA D a Q p e s m args below meth c hc hr n9 x1 0 0 z hw
