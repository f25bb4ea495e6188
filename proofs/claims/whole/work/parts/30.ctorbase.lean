/-! constructors: contracts Ck (a world that grows), rows for new cells and for calls with a frame -/
def Qk (NS : List Cond) (cl : List vw_C) (D : va_G) (tys : List (ClassId × FieldType)) (A : Nat → Prop) (P : St → Prop) (X1 : (Nat → Nat) → St → va_W) : Array Value → State → Outcome → State → Prop := fun _ st oc t => (∃ (b : Nat → Nat) (z : St), oc = .returned none ∧ P z ∧ va_P D cl (X1 b z) t.heap ∧ va_K D cl tys t ∧ va_D A (X1 b z) ∧ ∀ w ∈ NS, va_Nw w t) ∧ va_F A st t
def Ck (l : Launch) (NS : List Cond) (cl : List vw_C) (D : va_G) (tys : List (ClassId × FieldType)) (y : MethodName) (ws : List Cond) (rm : Room) (av : List Value) (X0 : va_W) (mc ms : Nat) (P : St → Prop) (X1 : (Nat → Nat) → St → va_W) : Prop :=
  ∀ sz : Nat, Met l y ws rm (va_Pc av (fun U => U.heap.size = sz ∧ va_P D cl X0 U.heap ∧ va_K D cl tys U ∧ va_D (fun _ => True) X0 ∧ ∀ w ∈ NS, va_Nw w U)) (Qk NS cl D tys (va_A X0 sz) P X1) mc ms (va_A X0 sz)
section VC
variable {cl : List vw_C} {p : Program} {l : Launch} {e : Env} {R : Room} {s : State} {m : MethodId} {args : Array Value} {below : List Frame} {meth : Method} {c : Code} {nL : Nat} {D : va_G} {A : Nat → Prop} {cells slots : Nat} {Q : State → Prop} {X : va_W} {pc : Nat} {L : List (Nat × Value)} {st : List Value} {TS NS : List Cond} {tys : List (ClassId × FieldType)} {cc : ByteArray} {own : String}
theorem Ck.of {y : MethodName} {rm : Room} {av : List Value} {X0 : va_W} {mc ms : Nat} {P : St → Prop} {X1 : (Nat → Nat) → St → va_W} (hy : plainName y.cls = true) (hlen : (lg_sl av).length ≤ nL)
    (body : ∀ (p : Program) (e : Env) (s : State) (m : MethodId) (args : Array Value) (below : List Frame) (meth : Method) (c : Code), Cx TS NS cl D tys p s m args meth c cc nL y.cls → meth.sig.returnType = none → meth.name = y.name → V cl p l e rm s m args below meth c nL D (va_A X0 s.heap.size) 0 0 (MQ below (Qk NS cl D tys (va_A X0 s.heap.size) P X1) args s mc ms (va_A X0 s.heap.size)) X0 0 (lv_args 0 av) []) : Ck l NS cl D tys y (.code y cc nL none :: TS) rm av X0 mc ms P X1 := by
  intro sz
  refine Met.ofW (cc := cc) (maxL := nL) (ret := none) hy rfl ?_
  intro p e s m args below meth c s₁ B hml hv
  obtain ⟨rfl, hsz, hP, hK, hD, hN⟩ := hv
  subst hsz
  have hts := atoms_spec (ws := .code y cc nL none :: TS) B.pre
  have hin : meth.name = y.name := (name_of_methodNamed B.named B.method).1
  rw [lg_entry_eq]
  exact body p e s m _ below meth c ⟨B.exec, B.bytes, hml, findClass_of_methodNamed B.named, fun w hw => hts w (List.mem_cons_of_mem _ hw), hN, hK, B.notSynchronized⟩ B.returns hin _ _ _ hP (hD.self) va_S.rf (lv_entry av hlen)
theorem V_cret (hc : Cx TS NS cl D tys p s m args meth c cc nL own) (hN : ∀ w ∈ NS, isNest w) (hr : meth.sig.returnType = none) {P : St → Prop} {X1 : (Nat → Nat) → St → va_W} (b : Nat → Nat) (z : St) (hX : X = X1 b z) (hP : P z) (hdg : decode cc pc = .ok (.return_, 1)) : V cl p l e R s m args below meth c nL D A (cells) (slots) (MQ below (Qk NS cl D tys A P X1) args s cells slots A) (X) (pc) (L) ([]) := by
  subst hX
  exact fun H locs ls hPw hD hS hL => W.vret hc.1 hc.2.1 hr (fun t ht hW => ⟨⟨b, z, rfl, hP, by rw [ht]; exact hPw, va_K.moved hW.alike hc.2.2.2.2.2.2.1, hD, nw_warm hN hW hc.2.2.2.2.2.1⟩, hS.F ht⟩) hS.2.2 hdg hc.2.2.2.2.2.2.2
theorem V_widen {k n : Nat} (h1 : cells ≤ k) (h2 : slots ≤ n) (kk : V cl p l e R s m args below meth c nL D A (k) (n) (Q) (X) (pc) (L) (st)) : V cl p l e R s m args below meth c nL D A (cells) (slots) (Q) (X) (pc) (L) (st) := fun H locs ls hP hD hS hL => W.widen h1 h2 (kk H locs ls hP hD hS hL)
theorem V_objInit (hc : Cx TS NS cl D tys p s m args meth c cc nL own) {idx a : Nat} (hlink : Cond.methodLink own idx Lib.objectInit ∈ TS) (hinst : Cond.instanceMethod Lib.objectInit ∈ TS) (hcode : Cond.code Lib.objectInit ⟨#[0xb1]⟩ 1 none ∈ TS) (hdg : decode cc pc = .ok (.invokespecial idx, 3)) (hfr : 1 ≤ R.frames) (hlo : (st.map fun v => v.category).sum + 12 ≤ R.locals) (k : V cl p l e R s m args below meth c nL D A (cells) (slots) (Q) (X) (pc + 3) (L) (st)) : V cl p l e R s m args below meth c nL D A (cells) (slots) (Q) (X) (pc) (L) (.ref a :: st) := fun H locs ls hP hD hS hL => W.objInit hc.1 hc.2.1 hc.2.2.2.1 (hc.2.2.2.2.1 _ hlink) (hc.2.2.2.2.1 _ hinst) (hc.2.2.2.2.1 _ hcode) rfl (hL.1.trans hc.2.2.1.symm) rfl hdg hfr (by show 2 * 0 + _ + 12 ≤ _; omega) (k H locs ls hP hD hS hL)
theorem V_new (hc : Cx TS NS cl D tys p s m args meth c cc nL own) {C : String} {T : u_T} {N ci index : Nat} (hin : ∀ w ∈ u_ws C T N, w ∈ TS) (ty : Nat → FieldType) (hty : ∀ k, k < N → parseFieldDescriptor (T k).2.2.1 = some (ty k)) (hcl : Cond.classLink own index C ∈ TS) (hinst : Cond.instantiable C N ∈ TS) (hini : Cond.initialized C ∈ TS) (hA : ∀ q, s.heap.size ≤ q → A q) (hcc : cl[ci]? = some (C, T, N)) {fs : List Value} (hfs : ∀ j, j < N → defaultValue (ty j) = vp_V fs j) (hce : cells + 1 ≤ R.cells) (hsl : slots + N ≤ R.slots) (hdg : decode cc pc = .ok (.new index, 3)) (kk : ∀ q : Nat, V cl p l e R s m args below meth c nL D A (cells + 1) (slots + N) (Q) (X ++ [(q, .inr (ci, fs))]) (pc + 3) (L) (.ref q :: st)) : V cl p l e R s m args below meth c nL D A (cells) (slots) (Q) (X) (pc) (L) (st) := fun H locs ls hP hD hS hL => va_new hc.1 hc.2.1 hc.2.2.2.2.1 hin ty hty hc.2.2.2.1 (hc.2.2.2.2.1 _ hcl) (hc.2.2.2.2.1 _ hinst) (hc.2.2.2.2.1 _ hini) hc.2.2.2.2.2.2.1 hP hD hS hA hcc hfs hce hsl hdg (fun q H1 hP hD hS => kk q H1 locs ls hP hD hS hL)
theorem V_newa (hc : Cx TS NS cl D tys p s m args meth c cc nL own) {atype : ArrayType} (harr : Cond.arrayClass (newarray.typeOf atype) ∈ TS) {ty : FieldType} (hty : newarray.typeOf atype = ty) (t0 : Nat) {cT : ClassId} (ht : tys[t0]? = some (cT, ty)) (hp : ∀ (U : State) (c : ClassId), va_RA U c ty → U.vm.findClass ("[" ++ ty.toString) = some c) (hA : ∀ q, s.heap.size ≤ q → A q) {n : Int32} {N' : Nat} {a0 : vp_A} (ha : ∀ cA : ClassId, vp_cell cA a0 = arrV cA N' (fun _ => defaultValue ty)) (hn : ¬ n < 0) (hN : n.toNatClampNeg = N') (hbytes : N' * componentBytes ty ≤ 536870912) (hce : cells + 1 ≤ R.cells) (hsl : slots + N' ≤ R.slots) (hdg : decode cc pc = .ok (.newarray atype, 2)) (kk : ∀ q : Nat, V cl p l e R s m args below meth c nL D A (cells + 1) (slots + N') (Q) (X ++ [(q, .inl (cT, a0))]) (pc + 2) (L) (.ref q :: st)) : V cl p l e R s m args below meth c nL D A (cells) (slots) (Q) (X) (pc) (L) (.int n :: st) := by
  intro H locs ls hP hD hS hL
  refine va_newa hc.1 hc.2.1 (hc.2.2.2.2.1 _ harr) hty hc.2.2.2.2.2.2.1 hP hD hS hA ha hn hN hbytes hce hsl hdg (fun q cA H1 hK hP hD hS => ?_)
  have e1 := hp _ _ (hK.2 tys.length (cA, ty) (by simp)).2
  have e2 := hp _ _ (hc.2.2.2.2.2.2.1.2 t0 (cT, ty) ht).2
  have e3 : cA = cT := Option.some.inj (e1.symm.trans e2)
  subst e3
  exact kk q H1 locs ls hP hD hS hL
theorem fb_Ck {av : List Value} {sz : Nat} {X0 : va_W} (hN : ∀ w ∈ NS, isNest w) : FrameBlind (va_Pc av (fun U => U.heap.size = sz ∧ va_P D cl X0 U.heap ∧ va_K D cl tys U ∧ va_D (fun _ => True) X0 ∧ ∀ w ∈ NS, va_Nw w U)) := by
  intro a U g mk q
  obtain ⟨q0, q1, qP, qK, qD, qN⟩ := q
  exact ⟨q0, q1, qP, va_K.moved (u := U) (U := U.calling g mk a) (Vm.Alike.refl U.vm) qK, qD, nw_same hN (rfl : U.vm = (U.calling g mk a).vm) qN⟩
theorem pre_Ck {H : Heap} {As : List Value} {X0 : va_W} (hc : Cx TS NS cl D tys p s m args meth c cc nL own) (hN : ∀ w ∈ NS, isNest w) (hP : va_P D cl X0 H) (hD : va_D A X0) : ∀ U : State, U.heap = H → s.WarmedH U.vm → va_Pc As (fun U => U.heap.size = H.size ∧ va_P D cl X0 U.heap ∧ va_K D cl tys U ∧ va_D (fun _ => True) X0 ∧ ∀ w ∈ NS, va_Nw w U) As.toArray U :=
  fun U hU hW => ⟨rfl, by rw [hU], by rw [hU]; exact hP, va_K.moved hW.alike hc.2.2.2.2.2.2.1, hD.weaken (fun _ _ _ _ => trivial), nw_warm hN hW hc.2.2.2.2.2.1⟩
theorem V_backK {wc wr : va_W} {mc ms : Nat} {P : St → Prop} {X1 : (Nat → Nat) → St → va_W} {H : Heap} {locs : List Loc} {ls : Array Slot} {st0 rest : List Value} {ar : Array Value} (hr : va_Run p l e R s m args below meth c H locs cells slots mc ms (F0 m pc ls st0) rest (Qk NS cl D tys (va_A wc H.size) P X1 ar) (va_A wc H.size)) (hP : va_P D cl X H) (hD : va_D A X) (hS : va_S A s.heap H locs) (hL : lv_has ls nL L) (hF : ∀ q, va_A wc H.size q → A q) (isC isR : List Nat) (hC : isC.map (fun i => X[i]?) = wc.map some) (hR : isR.map (fun i => X[i]?) = wr.map some) (hn : va_nd isR = true) (hdis : ∀ i ∈ isR, i ∉ isC)
    (kk : ∀ (b : Nat → Nat) (z : St), P z → V cl p l e R s m args below meth c nL D A (cells + mc) (slots + ms) (Q) (wr ++ X1 b z) (pc + 3) (L) (rest)) : W p l e R s m args below meth c H locs cells slots Q (F0 m pc ls st0) := by
  intro T hT X2
  obtain ⟨v, st₀, t, T', L', h0, X', hL', e1, e2, ⟨⟨b, z, hv, hp, hP1, hK1, hD1, hN1⟩, hz, hk⟩, st⟩ := hr T hT X2
  cases hv
  rw [h0] at hz hk
  obtain ⟨hPj, hDj⟩ := va_join (H1 := t.heap) hP hD isC isR hC hR hn hdis hk hF hP1 hD1
  obtain ⟨t2, a1, b1⟩ := kk b z hp T'.heap (locs ++ L') ls (by rw [e1]; exact hPj) hDj
    ⟨Nat.le_trans hS.1 (by rw [e1]; exact hz), fun q h1 h2 => by rw [e1, hk q (Nat.lt_of_lt_of_le h1 hS.1) (fun z => h2 (hF q z))]; exact hS.2.1 q h1 h2, fun q hq => by
      rcases List.mem_append.mp hq with h | h
      · exact hS.2.2 q h
      · exact hF _ (hL' q h)⟩ hL T' rfl X'
  exact ⟨t2, st t2 a1, b1⟩
theorem V_callKI (hc : Cx TS NS cl D tys p s m args meth c cc nL own) (hg : ∀ w ∈ TS, (w.onTables && w.keeps) = true ∨ ∃ ty, w = .arrayClass ty) (hN : ∀ w ∈ NS, isNest w) {y : MethodName} {bytes : ByteArray} {maxL index fr lo mc ms : Nat} {b0 : Nat} {As : List Value} {wc wr : va_W} {P : St → Prop} {X1 : (Nat → Nat) → St → va_W} {st0 : List Value} (hA : ∀ q, s.heap.size ≤ q → A q) (hM : Ck l NS cl D tys y (.code y bytes maxL none :: TS) { frames := fr, cells := mc, slots := ms, locals := lo } (.ref b0 :: As) wc mc ms P X1) (isC isR : List Nat) (hC : isC.map (fun i => X[i]?) = wc.map some) (hR : isR.map (fun i => X[i]?) = wr.map some) (hnC : va_nd isC = true) (hn : va_nd isR = true) (hdis : ∀ i ∈ isR, i ∉ isC) (hlink : Cond.methodLink own index y ∈ TS) (hini : Cond.initialized y.cls ∈ TS) (hcode : Cond.code y bytes maxL none ∈ TS) (hy1 : y.name = "<init>") (hinst : Cond.instanceMethod y ∈ TS) (hd : y.cls ≠ "java/lang/invoke/MethodHandle" ∧ y.cls ≠ "java/lang/invoke/VarHandle" ∧ (parseMethodDescriptor y.desc).map (fun d => d.parameters.length) = some As.length) (hR9 : fr + 1 ≤ R.frames ∧ 8 + (maxL + 11) + lo ≤ R.locals) (hce : cells + mc ≤ R.cells) (hsl : slots + ms ≤ R.slots) (hst : st0 = As.reverse ++ .ref b0 :: st) (hroom : (st.map fun v => v.category).sum ≤ 8) (hdg : decode cc pc = .ok (.invokespecial index, 3))
    (kk : ∀ (b : Nat → Nat) (z : St), P z → V cl p l e R s m args below meth c nL D A (cells + mc) (slots + ms) (Q) (wr ++ X1 b z) (pc + 3) (L) (st)) : V cl p l e R s m args below meth c nL D A (cells) (slots) (Q) (X) (pc) (L) (st0) := by
  subst hst
  intro H locs ls hP hD hS hL
  have hPc : va_P D cl wc H := fun k q hk => by
    obtain ⟨i, -, hi⟩ : ∃ i, isC[k]? = some i ∧ X[i]? = some q := by
      have h1 : (isC.map (fun i => X[i]?))[k]? = some (some q) := by rw [hC, List.getElem?_map, hk]; rfl
      rw [List.getElem?_map] at h1
      cases hi : isC[k]? with
      | none => rw [hi] at h1; cases h1
      | some i => rw [hi] at h1; exact ⟨i, rfl, Option.some.inj h1⟩
    exact hP i q hi
  have hDc := hD.sub isC hnC hC
  have hF := va_free hD hS hA isC hC
  exact V_backK (va_runI (g := F0 m pc ls (As.reverse ++ .ref b0 :: st)) (rest := st) (As := As) ⟨hc.1, hc.2.1, hc.2.2.1, hc.2.2.2.1, hc.2.2.2.2.1⟩ (hM H.size) ⟨callB_of As.length hc.2.2.2.2.1 (good_of hg hcode) rfl rfl rfl (hc.2.2.2.2.1 _ hini) (hc.2.2.2.2.1 _ hlink) hd hR9, hy1, hc.2.2.2.2.1 _ hinst⟩ ⟨fb_Ck hN, pre_Ck (As := .ref b0 :: As) hc hN hPc hDc⟩ rfl rfl hL.1 rfl (lv_room hroom) hdg ⟨hce, hsl⟩) hP hD hS hL hF isC isR hC hR hn hdis kk
theorem V_callKIN (hc : Cx TS NS cl D tys p s m args meth c cc nL own) (hg : ∀ w ∈ TS, (w.onTables && w.keeps) = true ∨ ∃ ty, w = .arrayClass ty) (hN : ∀ w ∈ NS, isNest w) {y : MethodName} {bytes : ByteArray} {maxL index fr lo mc ms : Nat} {b0 : Nat} {As : List Value} {wc wr : va_W} {P : St → Prop} {X1 : (Nat → Nat) → St → va_W} {st0 : List Value} (hA : ∀ q, s.heap.size ≤ q → A q) (hM : Ck l NS cl D tys y (.code y bytes maxL none :: TS) { frames := fr, cells := mc, slots := ms, locals := lo } (.ref b0 :: As) wc mc ms P X1) (isC isR : List Nat) (hC : isC.map (fun i => X[i]?) = wc.map some) (hR : isR.map (fun i => X[i]?) = wr.map some) (hnC : va_nd isC = true) (hn : va_nd isR = true) (hdis : ∀ i ∈ isR, i ∉ isC) {host : String} (hlink : Cond.methodLinkNest own index y host ∈ NS) (hini : Cond.initialized y.cls ∈ TS) (hcode : Cond.code y bytes maxL none ∈ TS) (hy1 : y.name = "<init>") (hinst : Cond.instanceMethod y ∈ TS) (hd : y.cls ≠ "java/lang/invoke/MethodHandle" ∧ y.cls ≠ "java/lang/invoke/VarHandle" ∧ (parseMethodDescriptor y.desc).map (fun d => d.parameters.length) = some As.length) (hR9 : fr + 1 ≤ R.frames ∧ 8 + (maxL + 11) + lo ≤ R.locals) (hce : cells + mc ≤ R.cells) (hsl : slots + ms ≤ R.slots) (hst : st0 = As.reverse ++ .ref b0 :: st) (hroom : (st.map fun v => v.category).sum ≤ 8) (hdg : decode cc pc = .ok (.invokespecial index, 3))
    (kk : ∀ (b : Nat → Nat) (z : St), P z → V cl p l e R s m args below meth c nL D A (cells + mc) (slots + ms) (Q) (wr ++ X1 b z) (pc + 3) (L) (st)) : V cl p l e R s m args below meth c nL D A (cells) (slots) (Q) (X) (pc) (L) (st0) := by
  subst hst
  intro H locs ls hP hD hS hL
  have hPc : va_P D cl wc H := fun k q hk => by
    obtain ⟨i, -, hi⟩ : ∃ i, isC[k]? = some i ∧ X[i]? = some q := by
      have h1 : (isC.map (fun i => X[i]?))[k]? = some (some q) := by rw [hC, List.getElem?_map, hk]; rfl
      rw [List.getElem?_map] at h1
      cases hi : isC[k]? with
      | none => rw [hi] at h1; cases h1
      | some i => rw [hi] at h1; exact ⟨i, rfl, Option.some.inj h1⟩
    exact hP i q hi
  have hDc := hD.sub isC hnC hC
  have hF := va_free hD hS hA isC hC
  exact V_backK (va_runIN (g := F0 m pc ls (As.reverse ++ .ref b0 :: st)) (rest := st) (As := As) ⟨hc.1, hc.2.1, hc.2.2.1, hc.2.2.2.1, hc.2.2.2.2.1⟩ (hM H.size) ⟨va_cnB As.length hc.2.2.2.2.1 (good_of hg hcode) rfl rfl rfl (hc.2.2.2.2.2.1 _ hlink) (hc.2.2.2.2.1 _ hini) hd hR9, hy1, hc.2.2.2.2.1 _ hinst⟩ ⟨fb_Ck hN, pre_Ck (As := .ref b0 :: As) hc hN hPc hDc⟩ rfl rfl hL.1 rfl (lv_room hroom) hdg ⟨hce, hsl⟩) hP hD hS hL hF isC isR hC hR hn hdis kk
theorem V_callKS (hc : Cx TS NS cl D tys p s m args meth c cc nL own) (hg : ∀ w ∈ TS, (w.onTables && w.keeps) = true ∨ ∃ ty, w = .arrayClass ty) (hN : ∀ w ∈ NS, isNest w) {y : MethodName} {bytes : ByteArray} {maxL index fr lo mc ms : Nat}  {As : List Value} {wc wr : va_W} {P : St → Prop} {X1 : (Nat → Nat) → St → va_W} {st0 : List Value} (hA : ∀ q, s.heap.size ≤ q → A q) (hM : Ck l NS cl D tys y (.code y bytes maxL none :: TS) { frames := fr, cells := mc, slots := ms, locals := lo } (As) wc mc ms P X1) (isC isR : List Nat) (hC : isC.map (fun i => X[i]?) = wc.map some) (hR : isR.map (fun i => X[i]?) = wr.map some) (hnC : va_nd isC = true) (hn : va_nd isR = true) (hdis : ∀ i ∈ isR, i ∉ isC) (hlink : Cond.methodLink own index y ∈ TS) (hini : Cond.initialized y.cls ∈ TS) (hcode : Cond.code y bytes maxL none ∈ TS) (hstat : Cond.static y ∈ TS) (hd : y.cls ≠ "java/lang/invoke/MethodHandle" ∧ y.cls ≠ "java/lang/invoke/VarHandle" ∧ (parseMethodDescriptor y.desc).map (fun d => d.parameters.length) = some As.length) (hR9 : fr + 1 ≤ R.frames ∧ 8 + (maxL + 11) + lo ≤ R.locals) (hce : cells + mc ≤ R.cells) (hsl : slots + ms ≤ R.slots) (hst : st0 = As.reverse ++ st) (hroom : (st.map fun v => v.category).sum ≤ 8) (hdg : decode cc pc = .ok (.invokestatic index, 3))
    (kk : ∀ (b : Nat → Nat) (z : St), P z → V cl p l e R s m args below meth c nL D A (cells + mc) (slots + ms) (Q) (wr ++ X1 b z) (pc + 3) (L) (st)) : V cl p l e R s m args below meth c nL D A (cells) (slots) (Q) (X) (pc) (L) (st0) := by
  subst hst
  intro H locs ls hP hD hS hL
  have hPc : va_P D cl wc H := fun k q hk => by
    obtain ⟨i, -, hi⟩ : ∃ i, isC[k]? = some i ∧ X[i]? = some q := by
      have h1 : (isC.map (fun i => X[i]?))[k]? = some (some q) := by rw [hC, List.getElem?_map, hk]; rfl
      rw [List.getElem?_map] at h1
      cases hi : isC[k]? with
      | none => rw [hi] at h1; cases h1
      | some i => rw [hi] at h1; exact ⟨i, rfl, Option.some.inj h1⟩
    exact hP i q hi
  have hDc := hD.sub isC hnC hC
  have hF := va_free hD hS hA isC hC
  exact V_backK (va_runS (g := F0 m pc ls (As.reverse ++ st)) (rest := st) (As := As) ⟨hc.1, hc.2.1, hc.2.2.1, hc.2.2.2.1, hc.2.2.2.2.1⟩ (hM H.size) ⟨callB_of As.length hc.2.2.2.2.1 (good_of hg hcode) rfl rfl rfl (hc.2.2.2.2.1 _ hini) (hc.2.2.2.2.1 _ hlink) hd hR9, hc.2.2.2.2.1 _ hstat⟩ ⟨fb_Ck hN, pre_Ck (As := As) hc hN hPc hDc⟩ rfl rfl hL.1 rfl (lv_room hroom) hdg ⟨hce, hsl⟩) hP hD hS hL hF isC isR hC hR hn hdis kk
theorem AX_va {n : Nat} {a : Nat → Nat} {WF : St → va_W} (h : ∀ z, (WF z).map Prod.fst = (List.range n).map a) {z : St} {sz q : Nat} (hq : AX n a sz q) : va_A (WF z) sz q := by
  rcases hq with ⟨k, hk, rfl⟩ | hq
  · have h1 : a k ∈ (WF z).map Prod.fst := by rw [h]; exact List.mem_map.mpr ⟨k, List.mem_range.mpr hk, rfl⟩
    obtain ⟨x, hx, ex⟩ := List.mem_map.mp h1
    obtain ⟨i, hi⟩ := List.getElem?_of_mem hx
    exact Or.inl ⟨i, x.2, by rw [← ex]; exact hi⟩
  · exact Or.inr hq
theorem V_backJ {wr : va_W} {n : Nat} {a : Nat → Nat} {WF : St → va_W} {z : St} {ρ : Type} {mk : ρ → Option Value} {H : Heap} {locs : List Loc} {ls : Array Slot} {st0 rest : List Value} {Qr : ρ → St → Prop} {ar : Array Value} (hr : va_Run p l e R s m args below meth c H locs cells slots 0 0 (F0 m pc ls st0) rest (Qg NS cl D tys WF (AX n a H.size) mk Qr ar) (AX n a H.size)) (hm : ∀ z, (WF z).map Prod.fst = (List.range n).map a) (hP : va_P D cl X H) (hD : va_D A X) (hS : va_S A s.heap H locs) (hL : lv_has ls nL L) (hA : ∀ q, s.heap.size ≤ q → A q) (isC isR : List Nat) (hC : isC.map (fun i => X[i]?) = (WF z).map some) (hR : isR.map (fun i => X[i]?) = wr.map some) (hn : va_nd isR = true) (hdis : ∀ i ∈ isR, i ∉ isC)
    (kk : ∀ (r : ρ) (u : St), Qr r u → V cl p l e R s m args below meth c nL D A (cells) (slots) (Q) (wr ++ WF u) (pc + 3) (L) ((mk r).toList ++ rest)) : W p l e R s m args below meth c H locs cells slots Q (F0 m pc ls st0) := by
  intro T hT X2
  obtain ⟨v, st₀, t, T', L', h0, X', hL', e1, e2, ⟨⟨r, u, hv, hq, ⟨hP1, hK1, hD1, hN1⟩⟩, hz, hk⟩, st⟩ := hr T hT X2
  cases hv
  rw [h0] at hz hk
  have hF := va_free hD hS hA isC hC
  have hup : ∀ q, AX n a H.size q → A q := fun q h => hF q (AX_va hm h)
  obtain ⟨hPj, hDj⟩ := va_join (H1 := t.heap) hP hD isC isR hC hR hn hdis (fun q h1 h2 => hk q h1 (fun h => h2 (AX_va hm h))) hF hP1 (hD1.weaken (fun _ _ _ h => AX_va hm h))
  obtain ⟨t2, a1, b1⟩ := kk r u hq T'.heap (locs ++ L') ls (by rw [e1]; exact hPj) hDj
    ⟨Nat.le_trans hS.1 (by rw [e1]; exact hz), fun q h1 h2 => by rw [e1, hk q (Nat.lt_of_lt_of_le h1 hS.1) (fun z => h2 (hup q z))]; exact hS.2.1 q h1 h2, fun q hq => by
      rcases List.mem_append.mp hq with h | h
      · exact hS.2.2 q h
      · exact hup _ (hL' q h)⟩ hL T' rfl X'
  exact ⟨t2, st t2 a1, b1⟩
theorem V_callJi (hc : Cx TS NS cl D tys p s m args meth c cc nL own) (hg : ∀ w ∈ TS, (w.onTables && w.keeps) = true ∨ ∃ ty, w = .arrayClass ty) (hN : ∀ w ∈ NS, isNest w) {y : MethodName} {bytes : ByteArray} {maxL index : Nat} {ret : Option FieldType} {fr lo : Nat} {b : Nat} {As : List Value} {wr : va_W} {n : Nat} {a : Nat → Nat} {WF : St → va_W} {z : St} {wp : (Int32 → St → Prop) → Prop} {st0 : List Value} (hA : ∀ q, s.heap.size ≤ q → A q) (hm : ∀ z, (WF z).map Prod.fst = (List.range n).map a) (hM : Ct l NS cl D tys n a WF mkI y (.code y bytes maxL ret :: TS) { frames := fr, cells := 0, slots := 0, locals := lo } (.ref b :: As) z wp) (isC isR : List Nat) (hC : isC.map (fun i => X[i]?) = (WF z).map some) (hR : isR.map (fun i => X[i]?) = wr.map some) (hnC : va_nd isC = true) (hn : va_nd isR = true) (hdis : ∀ i ∈ isR, i ∉ isC) (hlink : Cond.methodLink own index y ∈ TS) (hini : Cond.initialized y.cls ∈ TS) (hcode : Cond.code y bytes maxL ret ∈ TS) (hinst : Cond.instanceMethod y ∈ TS) (hsel : Cond.selects y.cls y y ∈ TS) {ci : Nat} {fs : List Value} (q0 : Nat) (he : (WF z)[q0]? = some (b, .inr (ci, fs))) {T : u_T} {N : Nat} (hcl : cl[ci]? = some (y.cls, T, N)) (hd : y.cls ≠ "java/lang/invoke/MethodHandle" ∧ y.cls ≠ "java/lang/invoke/VarHandle" ∧ (parseMethodDescriptor y.desc).map (fun d => d.parameters.length) = some As.length) (hR9 : fr + 1 ≤ R.frames ∧ 8 + (maxL + 11) + lo ≤ R.locals) (hce : cells ≤ R.cells) (hsl : slots ≤ R.slots) (hst : st0 = As.reverse ++ .ref b :: st) (hroom : (st.map fun v => v.category).sum ≤ 8) (hdg : decode cc pc = .ok (.invokevirtual index, 3)) {Qr : Int32 → St → Prop} (hw : wp Qr)
    (kk : ∀ (r : Int32) (u : St), Qr r u → V cl p l e R s m args below meth c nL D A (cells) (slots) (Q) (wr ++ WF u) (pc + 3) (L) (.int r :: st)) : V cl p l e R s m args below meth c nL D A (cells) (slots) (Q) (X) (pc) (L) (st0) := by
  subst hst
  intro H locs ls hP hD hS hL
  have hPc : va_P D cl (WF z) H := fun k q hk => by
    obtain ⟨i, -, hi⟩ : ∃ i, isC[k]? = some i ∧ X[i]? = some q := by
      have h1 : (isC.map (fun i => X[i]?))[k]? = some (some q) := by rw [hC, List.getElem?_map, hk]; rfl
      rw [List.getElem?_map] at h1
      cases hi : isC[k]? with
      | none => rw [hi] at h1; cases h1
      | some i => rw [hi] at h1; exact ⟨i, rfl, Option.some.inj h1⟩
    exact hP i q hi
  have hDc := hD.sub isC hnC hC
  exact V_backJ (va_runV (C := y.cls) (g := F0 m pc ls (As.reverse ++ .ref b :: st)) (rest := st) (As := As) ⟨hc.1, hc.2.1, hc.2.2.1, hc.2.2.2.1, hc.2.2.2.2.1⟩ (hM H.size Qr) ⟨callB_of As.length hc.2.2.2.2.1 (good_of hg hcode) rfl rfl rfl (hc.2.2.2.2.1 _ hini) (hc.2.2.2.2.1 _ hlink) hd hR9, hc.2.2.2.2.1 _ hinst, hc.2.2.2.2.1 _ hsel⟩ ⟨fb_Ct hN, va_recv hc.2.2.2.2.2.2.1 hPc hcl he, pre_Ct (locs := locs) hc hN hPc hDc hw⟩ rfl rfl hL.1 rfl (lv_room hroom) hdg ⟨hce, hsl⟩) hm hP hD hS hL hA isC isR hC hR hn hdis kk
theorem V_callJl (hc : Cx TS NS cl D tys p s m args meth c cc nL own) (hg : ∀ w ∈ TS, (w.onTables && w.keeps) = true ∨ ∃ ty, w = .arrayClass ty) (hN : ∀ w ∈ NS, isNest w) {y : MethodName} {bytes : ByteArray} {maxL index : Nat} {ret : Option FieldType} {fr lo : Nat} {b : Nat} {As : List Value} {wr : va_W} {n : Nat} {a : Nat → Nat} {WF : St → va_W} {z : St} {wp : (Int64 → St → Prop) → Prop} {st0 : List Value} (hA : ∀ q, s.heap.size ≤ q → A q) (hm : ∀ z, (WF z).map Prod.fst = (List.range n).map a) (hM : Ct l NS cl D tys n a WF mkL y (.code y bytes maxL ret :: TS) { frames := fr, cells := 0, slots := 0, locals := lo } (.ref b :: As) z wp) (isC isR : List Nat) (hC : isC.map (fun i => X[i]?) = (WF z).map some) (hR : isR.map (fun i => X[i]?) = wr.map some) (hnC : va_nd isC = true) (hn : va_nd isR = true) (hdis : ∀ i ∈ isR, i ∉ isC) (hlink : Cond.methodLink own index y ∈ TS) (hini : Cond.initialized y.cls ∈ TS) (hcode : Cond.code y bytes maxL ret ∈ TS) (hinst : Cond.instanceMethod y ∈ TS) (hsel : Cond.selects y.cls y y ∈ TS) {ci : Nat} {fs : List Value} (q0 : Nat) (he : (WF z)[q0]? = some (b, .inr (ci, fs))) {T : u_T} {N : Nat} (hcl : cl[ci]? = some (y.cls, T, N)) (hd : y.cls ≠ "java/lang/invoke/MethodHandle" ∧ y.cls ≠ "java/lang/invoke/VarHandle" ∧ (parseMethodDescriptor y.desc).map (fun d => d.parameters.length) = some As.length) (hR9 : fr + 1 ≤ R.frames ∧ 8 + (maxL + 11) + lo ≤ R.locals) (hce : cells ≤ R.cells) (hsl : slots ≤ R.slots) (hst : st0 = As.reverse ++ .ref b :: st) (hroom : (st.map fun v => v.category).sum ≤ 8) (hdg : decode cc pc = .ok (.invokevirtual index, 3)) {Qr : Int64 → St → Prop} (hw : wp Qr)
    (kk : ∀ (r : Int64) (u : St), Qr r u → V cl p l e R s m args below meth c nL D A (cells) (slots) (Q) (wr ++ WF u) (pc + 3) (L) (.long r :: st)) : V cl p l e R s m args below meth c nL D A (cells) (slots) (Q) (X) (pc) (L) (st0) := by
  subst hst
  intro H locs ls hP hD hS hL
  have hPc : va_P D cl (WF z) H := fun k q hk => by
    obtain ⟨i, -, hi⟩ : ∃ i, isC[k]? = some i ∧ X[i]? = some q := by
      have h1 : (isC.map (fun i => X[i]?))[k]? = some (some q) := by rw [hC, List.getElem?_map, hk]; rfl
      rw [List.getElem?_map] at h1
      cases hi : isC[k]? with
      | none => rw [hi] at h1; cases h1
      | some i => rw [hi] at h1; exact ⟨i, rfl, Option.some.inj h1⟩
    exact hP i q hi
  have hDc := hD.sub isC hnC hC
  exact V_backJ (va_runV (C := y.cls) (g := F0 m pc ls (As.reverse ++ .ref b :: st)) (rest := st) (As := As) ⟨hc.1, hc.2.1, hc.2.2.1, hc.2.2.2.1, hc.2.2.2.2.1⟩ (hM H.size Qr) ⟨callB_of As.length hc.2.2.2.2.1 (good_of hg hcode) rfl rfl rfl (hc.2.2.2.2.1 _ hini) (hc.2.2.2.2.1 _ hlink) hd hR9, hc.2.2.2.2.1 _ hinst, hc.2.2.2.2.1 _ hsel⟩ ⟨fb_Ct hN, va_recv hc.2.2.2.2.2.2.1 hPc hcl he, pre_Ct (locs := locs) hc hN hPc hDc hw⟩ rfl rfl hL.1 rfl (lv_room hroom) hdg ⟨hce, hsl⟩) hm hP hD hS hL hA isC isR hC hR hn hdis kk
theorem V_callJv (hc : Cx TS NS cl D tys p s m args meth c cc nL own) (hg : ∀ w ∈ TS, (w.onTables && w.keeps) = true ∨ ∃ ty, w = .arrayClass ty) (hN : ∀ w ∈ NS, isNest w) {y : MethodName} {bytes : ByteArray} {maxL index : Nat} {ret : Option FieldType} {fr lo : Nat} {b : Nat} {As : List Value} {wr : va_W} {n : Nat} {a : Nat → Nat} {WF : St → va_W} {z : St} {wp : (Unit → St → Prop) → Prop} {st0 : List Value} (hA : ∀ q, s.heap.size ≤ q → A q) (hm : ∀ z, (WF z).map Prod.fst = (List.range n).map a) (hM : Ct l NS cl D tys n a WF mkV y (.code y bytes maxL ret :: TS) { frames := fr, cells := 0, slots := 0, locals := lo } (.ref b :: As) z wp) (isC isR : List Nat) (hC : isC.map (fun i => X[i]?) = (WF z).map some) (hR : isR.map (fun i => X[i]?) = wr.map some) (hnC : va_nd isC = true) (hn : va_nd isR = true) (hdis : ∀ i ∈ isR, i ∉ isC) (hlink : Cond.methodLink own index y ∈ TS) (hini : Cond.initialized y.cls ∈ TS) (hcode : Cond.code y bytes maxL ret ∈ TS) (hinst : Cond.instanceMethod y ∈ TS) (hsel : Cond.selects y.cls y y ∈ TS) {ci : Nat} {fs : List Value} (q0 : Nat) (he : (WF z)[q0]? = some (b, .inr (ci, fs))) {T : u_T} {N : Nat} (hcl : cl[ci]? = some (y.cls, T, N)) (hd : y.cls ≠ "java/lang/invoke/MethodHandle" ∧ y.cls ≠ "java/lang/invoke/VarHandle" ∧ (parseMethodDescriptor y.desc).map (fun d => d.parameters.length) = some As.length) (hR9 : fr + 1 ≤ R.frames ∧ 8 + (maxL + 11) + lo ≤ R.locals) (hce : cells ≤ R.cells) (hsl : slots ≤ R.slots) (hst : st0 = As.reverse ++ .ref b :: st) (hroom : (st.map fun v => v.category).sum ≤ 8) (hdg : decode cc pc = .ok (.invokevirtual index, 3)) {Qr : Unit → St → Prop} (hw : wp Qr)
    (kk : ∀ (r : Unit) (u : St), Qr r u → V cl p l e R s m args below meth c nL D A (cells) (slots) (Q) (wr ++ WF u) (pc + 3) (L) (st)) : V cl p l e R s m args below meth c nL D A (cells) (slots) (Q) (X) (pc) (L) (st0) := by
  subst hst
  intro H locs ls hP hD hS hL
  have hPc : va_P D cl (WF z) H := fun k q hk => by
    obtain ⟨i, -, hi⟩ : ∃ i, isC[k]? = some i ∧ X[i]? = some q := by
      have h1 : (isC.map (fun i => X[i]?))[k]? = some (some q) := by rw [hC, List.getElem?_map, hk]; rfl
      rw [List.getElem?_map] at h1
      cases hi : isC[k]? with
      | none => rw [hi] at h1; cases h1
      | some i => rw [hi] at h1; exact ⟨i, rfl, Option.some.inj h1⟩
    exact hP i q hi
  have hDc := hD.sub isC hnC hC
  exact V_backJ (va_runV (C := y.cls) (g := F0 m pc ls (As.reverse ++ .ref b :: st)) (rest := st) (As := As) ⟨hc.1, hc.2.1, hc.2.2.1, hc.2.2.2.1, hc.2.2.2.2.1⟩ (hM H.size Qr) ⟨callB_of As.length hc.2.2.2.2.1 (good_of hg hcode) rfl rfl rfl (hc.2.2.2.2.1 _ hini) (hc.2.2.2.2.1 _ hlink) hd hR9, hc.2.2.2.2.1 _ hinst, hc.2.2.2.2.1 _ hsel⟩ ⟨fb_Ct hN, va_recv hc.2.2.2.2.2.2.1 hPc hcl he, pre_Ct (locs := locs) hc hN hPc hDc hw⟩ rfl rfl hL.1 rfl (lv_room hroom) hdg ⟨hce, hsl⟩) hm hP hD hS hL hA isC isR hC hR hn hdis kk
theorem V_sld (hc : Cx TS NS cl D tys p s m args meth c cc nL own) {b N : Nat} {xs : Nat → Int32} (hX : va_X b N xs s s.heap) (hbl : b < s.heap.size) (hbA : ¬ A b) {i x : Int32} (hin : vp_in i N) (hx : xs i.toNatClampNeg = x) (hdg : decode cc pc = .ok (.iaload, 1)) (k : V cl p l e R s m args below meth c nL D A (cells) (slots) (Q) (X) (pc + 1) (L) (.int x :: st)) : V cl p l e R s m args below meth c nL D A (cells) (slots) (Q) (X) (pc) (L) (.int i :: .ref b :: st) := fun H locs ls hP hD hS hL => va_sld hc.1 hc.2.1 hX hbl hbA hS hin hdg (hx ▸ k H locs ls hP hD hS hL)
theorem V_slen (hc : Cx TS NS cl D tys p s m args meth c cc nL own) {b N : Nat} {xs : Nat → Int32} (hX : va_X b N xs s s.heap) (hbl : b < s.heap.size) (hbA : ¬ A b) (hdg : decode cc pc = .ok (.arraylength, 1)) (k : V cl p l e R s m args below meth c nL D A (cells) (slots) (Q) (X) (pc + 1) (L) (.int (Int32.ofNat N) :: st)) : V cl p l e R s m args below meth c nL D A (cells) (slots) (Q) (X) (pc) (L) (.ref b :: st) := fun H locs ls hP hD hS hL => va_slen hc.1 hc.2.1 hX hbl hbA hS hdg (k H locs ls hP hD hS hL)
end VC
/-- the array classes, out of their words -/
theorem k_arr {args : Array Value} {s : State} {ty : FieldType} (hp : ∀ (U : State) (c : ClassId), U.vm.findClass ("[" ++ ty.toString) = some c → va_RA U c ty) (h : (Cond.arrayClass ty).before args s = true) : ∃ cA : ClassId, ArrOfT s cA ty ∧ va_RA s cA ty := by
  obtain ⟨cA, kA, comp, h1, h2, h3⟩ := Cond.arrayClass_spec h
  exact ⟨cA, fun n z => ⟨fun k h => (by cases h), kA, h2, comp, h3⟩, hp _ _ h1⟩
