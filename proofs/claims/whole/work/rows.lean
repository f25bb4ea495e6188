section
-- ===== PART A: goes FIRST, ahead of the names: the tables' words, and 'selects' of the private methods out of them =====
/-- a private method of a class that the tables say can be made, by its rows of tables_1 -/
def lw_okq (q : MethodName × Nat) : Prop := (q.1.cls ≠ "java/lang/invoke/MethodHandle" ∧ q.1.cls ≠ "java/lang/invoke/VarHandle") ∧ Cond.instantiable q.1.cls q.2 ∈ tables_1 ∧ Cond.privateMethod q.1 ∈ tables_1 ∧ Cond.instanceMethod q.1 ∈ tables_1
theorem lw_p0 : lw_okq (⟨"ChangeFeed", "refusalOf", "(II)I"⟩, 5) := ⟨⟨by decide +kernel, by decide +kernel⟩, List.mem_of_getElem? (i := 13) (by decide +kernel), List.mem_of_getElem? (i := 266) (by decide +kernel), List.mem_of_getElem? (i := 267) (by decide +kernel)⟩
theorem lw_p1 : lw_okq (⟨"ChangeFeed$Source", "slotOf", "(I)I"⟩, 7) := ⟨⟨by decide +kernel, by decide +kernel⟩, List.mem_of_getElem? (i := 63) (by decide +kernel), List.mem_of_getElem? (i := 274) (by decide +kernel), List.mem_of_getElem? (i := 275) (by decide +kernel)⟩
theorem lw_p2 : lw_okq (⟨"ChangeFeed", "isKey", "(I)Z"⟩, 5) := ⟨⟨by decide +kernel, by decide +kernel⟩, List.mem_of_getElem? (i := 13) (by decide +kernel), List.mem_of_getElem? (i := 278) (by decide +kernel), List.mem_of_getElem? (i := 279) (by decide +kernel)⟩
theorem lw_p3 : lw_okq (⟨"ChangeFeed$Source", "loosen", "(IZ)V"⟩, 7) := ⟨⟨by decide +kernel, by decide +kernel⟩, List.mem_of_getElem? (i := 63) (by decide +kernel), List.mem_of_getElem? (i := 324) (by decide +kernel), List.mem_of_getElem? (i := 325) (by decide +kernel)⟩
theorem lw_p4 : lw_okq (⟨"ChangeFeed$Source", "close", "(I)V"⟩, 7) := ⟨⟨by decide +kernel, by decide +kernel⟩, List.mem_of_getElem? (i := 63) (by decide +kernel), List.mem_of_getElem? (i := 328) (by decide +kernel), List.mem_of_getElem? (i := 329) (by decide +kernel)⟩
theorem lw_p5 : lw_okq (⟨"ChangeFeed$Pipeline", "beginChunk", "()I"⟩, 17) := ⟨⟨by decide +kernel, by decide +kernel⟩, List.mem_of_getElem? (i := 114) (by decide +kernel), List.mem_of_getElem? (i := 374) (by decide +kernel), List.mem_of_getElem? (i := 375) (by decide +kernel)⟩
theorem lw_p6 : lw_okq (⟨"ChangeFeed$Pipeline", "afterChunk", "()I"⟩, 17) := ⟨⟨by decide +kernel, by decide +kernel⟩, List.mem_of_getElem? (i := 114) (by decide +kernel), List.mem_of_getElem? (i := 385) (by decide +kernel), List.mem_of_getElem? (i := 386) (by decide +kernel)⟩
theorem lw_p7 : lw_okq (⟨"ChangeFeed$Pipeline", "closeChunk", "()I"⟩, 17) := ⟨⟨by decide +kernel, by decide +kernel⟩, List.mem_of_getElem? (i := 114) (by decide +kernel), List.mem_of_getElem? (i := 395) (by decide +kernel), List.mem_of_getElem? (i := 396) (by decide +kernel)⟩
theorem lw_p8 : lw_okq (⟨"ChangeFeed$Pipeline", "isToBeEmitted", "()Z"⟩, 17) := ⟨⟨by decide +kernel, by decide +kernel⟩, List.mem_of_getElem? (i := 114) (by decide +kernel), List.mem_of_getElem? (i := 411) (by decide +kernel), List.mem_of_getElem? (i := 412) (by decide +kernel)⟩
theorem lw_p9 : lw_okq (⟨"ChangeFeed$Pipeline", "readEvent", "()V"⟩, 17) := ⟨⟨by decide +kernel, by decide +kernel⟩, List.mem_of_getElem? (i := 114) (by decide +kernel), List.mem_of_getElem? (i := 419) (by decide +kernel), List.mem_of_getElem? (i := 420) (by decide +kernel)⟩
theorem lw_p10 : lw_okq (⟨"ChangeFeed$Pipeline", "emit", "()V"⟩, 17) := ⟨⟨by decide +kernel, by decide +kernel⟩, List.mem_of_getElem? (i := 114) (by decide +kernel), List.mem_of_getElem? (i := 423) (by decide +kernel), List.mem_of_getElem? (i := 424) (by decide +kernel)⟩
theorem lw_p11 : lw_okq (⟨"ChangeFeed$Pipeline", "sendQueued", "(I)V"⟩, 17) := ⟨⟨by decide +kernel, by decide +kernel⟩, List.mem_of_getElem? (i := 114) (by decide +kernel), List.mem_of_getElem? (i := 427) (by decide +kernel), List.mem_of_getElem? (i := 428) (by decide +kernel)⟩
theorem lw_p12 : lw_okq (⟨"ChangeFeed$Channel", "append", "(IIII)Z"⟩, 3) := ⟨⟨by decide +kernel, by decide +kernel⟩, List.mem_of_getElem? (i := 96) (by decide +kernel), List.mem_of_getElem? (i := 435) (by decide +kernel), List.mem_of_getElem? (i := 436) (by decide +kernel)⟩
theorem lw_p13 : lw_okq (⟨"ChangeFeed$Pipeline", "strikeKeysOf", "(I)V"⟩, 17) := ⟨⟨by decide +kernel, by decide +kernel⟩, List.mem_of_getElem? (i := 114) (by decide +kernel), List.mem_of_getElem? (i := 439) (by decide +kernel), List.mem_of_getElem? (i := 440) (by decide +kernel)⟩
theorem lw_p14 : lw_okq (⟨"ChangeFeed$Pipeline", "bearChunk", "()V"⟩, 17) := ⟨⟨by decide +kernel, by decide +kernel⟩, List.mem_of_getElem? (i := 114) (by decide +kernel), List.mem_of_getElem? (i := 451) (by decide +kernel), List.mem_of_getElem? (i := 452) (by decide +kernel)⟩
theorem lw_p15 : lw_okq (⟨"ChangeFeed", "sendAck", "()V"⟩, 5) := ⟨⟨by decide +kernel, by decide +kernel⟩, List.mem_of_getElem? (i := 13) (by decide +kernel), List.mem_of_getElem? (i := 495) (by decide +kernel), List.mem_of_getElem? (i := 496) (by decide +kernel)⟩
def lw_privs_1 : List (MethodName × Nat) := [(⟨"ChangeFeed", "refusalOf", "(II)I"⟩, 5), (⟨"ChangeFeed$Source", "slotOf", "(I)I"⟩, 7), (⟨"ChangeFeed", "isKey", "(I)Z"⟩, 5), (⟨"ChangeFeed$Source", "loosen", "(IZ)V"⟩, 7), (⟨"ChangeFeed$Source", "close", "(I)V"⟩, 7), (⟨"ChangeFeed$Pipeline", "beginChunk", "()I"⟩, 17), (⟨"ChangeFeed$Pipeline", "afterChunk", "()I"⟩, 17), (⟨"ChangeFeed$Pipeline", "closeChunk", "()I"⟩, 17), (⟨"ChangeFeed$Pipeline", "isToBeEmitted", "()Z"⟩, 17), (⟨"ChangeFeed$Pipeline", "readEvent", "()V"⟩, 17), (⟨"ChangeFeed$Pipeline", "emit", "()V"⟩, 17), (⟨"ChangeFeed$Pipeline", "sendQueued", "(I)V"⟩, 17), (⟨"ChangeFeed$Channel", "append", "(IIII)Z"⟩, 3), (⟨"ChangeFeed$Pipeline", "strikeKeysOf", "(I)V"⟩, 17), (⟨"ChangeFeed$Pipeline", "bearChunk", "()V"⟩, 17), (⟨"ChangeFeed", "sendAck", "()V"⟩, 5)]
theorem lw_r1 : ∀ q ∈ lw_privs_1, lw_okq q := List.forall_mem_cons.mpr ⟨lw_p0, List.forall_mem_cons.mpr ⟨lw_p1, List.forall_mem_cons.mpr ⟨lw_p2, List.forall_mem_cons.mpr ⟨lw_p3, List.forall_mem_cons.mpr ⟨lw_p4, List.forall_mem_cons.mpr ⟨lw_p5, List.forall_mem_cons.mpr ⟨lw_p6, List.forall_mem_cons.mpr ⟨lw_p7, List.forall_mem_cons.mpr ⟨lw_p8, List.forall_mem_cons.mpr ⟨lw_p9, List.forall_mem_cons.mpr ⟨lw_p10, List.forall_mem_cons.mpr ⟨lw_p11, List.forall_mem_cons.mpr ⟨lw_p12, List.forall_mem_cons.mpr ⟨lw_p13, List.forall_mem_cons.mpr ⟨lw_p14, List.forall_mem_cons.mpr ⟨lw_p15, fun _ h => absurd h List.not_mem_nil⟩⟩⟩⟩⟩⟩⟩⟩⟩⟩⟩⟩⟩⟩⟩⟩
theorem lw_p16 : lw_okq (⟨"ChangeFeed$Sink", "storeChunk", "([JI)V"⟩, 7) := ⟨⟨by decide +kernel, by decide +kernel⟩, List.mem_of_getElem? (i := 199) (by decide +kernel), List.mem_of_getElem? (i := 529) (by decide +kernel), List.mem_of_getElem? (i := 530) (by decide +kernel)⟩
theorem lw_p17 : lw_okq (⟨"ChangeFeed$Sink", "storeRow", "(IJ)V"⟩, 7) := ⟨⟨by decide +kernel, by decide +kernel⟩, List.mem_of_getElem? (i := 199) (by decide +kernel), List.mem_of_getElem? (i := 534) (by decide +kernel), List.mem_of_getElem? (i := 535) (by decide +kernel)⟩
theorem lw_p18 : lw_okq (⟨"ChangeFeed$Sink", "storeChanges", "(I)V"⟩, 7) := ⟨⟨by decide +kernel, by decide +kernel⟩, List.mem_of_getElem? (i := 199) (by decide +kernel), List.mem_of_getElem? (i := 541) (by decide +kernel), List.mem_of_getElem? (i := 542) (by decide +kernel)⟩
theorem lw_p19 : lw_okq (⟨"ChangeFeed$Sink", "isOfGroup", "(II)Z"⟩, 7) := ⟨⟨by decide +kernel, by decide +kernel⟩, List.mem_of_getElem? (i := 199) (by decide +kernel), List.mem_of_getElem? (i := 558) (by decide +kernel), List.mem_of_getElem? (i := 559) (by decide +kernel)⟩
theorem lw_p20 : lw_okq (⟨"ChangeFeedModel", "isKey", "(I)Z"⟩, 39) := ⟨⟨by decide +kernel, by decide +kernel⟩, List.mem_of_getElem? (i := 580) (by decide +kernel), List.mem_of_getElem? (i := 708) (by decide +kernel), List.mem_of_getElem? (i := 709) (by decide +kernel)⟩
theorem lw_p21 : lw_okq (⟨"ChangeFeedModel", "speaks", "(II)Z"⟩, 39) := ⟨⟨by decide +kernel, by decide +kernel⟩, List.mem_of_getElem? (i := 580) (by decide +kernel), List.mem_of_getElem? (i := 713) (by decide +kernel), List.mem_of_getElem? (i := 714) (by decide +kernel)⟩
theorem lw_p22 : lw_okq (⟨"ChangeFeedModel", "lastBy", "(III)I"⟩, 39) := ⟨⟨by decide +kernel, by decide +kernel⟩, List.mem_of_getElem? (i := 580) (by decide +kernel), List.mem_of_getElem? (i := 717) (by decide +kernel), List.mem_of_getElem? (i := 718) (by decide +kernel)⟩
theorem lw_p23 : lw_okq (⟨"ChangeFeedModel", "struck", "(III)Z"⟩, 39) := ⟨⟨by decide +kernel, by decide +kernel⟩, List.mem_of_getElem? (i := 580) (by decide +kernel), List.mem_of_getElem? (i := 721) (by decide +kernel), List.mem_of_getElem? (i := 722) (by decide +kernel)⟩
theorem lw_p24 : lw_okq (⟨"ChangeFeedModel", "table", "(II)J"⟩, 39) := ⟨⟨by decide +kernel, by decide +kernel⟩, List.mem_of_getElem? (i := 580) (by decide +kernel), List.mem_of_getElem? (i := 725) (by decide +kernel), List.mem_of_getElem? (i := 726) (by decide +kernel)⟩
theorem lw_p25 : lw_okq (⟨"ChangeFeedModel", "made", "(I)J"⟩, 39) := ⟨⟨by decide +kernel, by decide +kernel⟩, List.mem_of_getElem? (i := 580) (by decide +kernel), List.mem_of_getElem? (i := 729) (by decide +kernel), List.mem_of_getElem? (i := 730) (by decide +kernel)⟩
theorem lw_p26 : lw_okq (⟨"ChangeFeedModel", "says", "(II)J"⟩, 39) := ⟨⟨by decide +kernel, by decide +kernel⟩, List.mem_of_getElem? (i := 580) (by decide +kernel), List.mem_of_getElem? (i := 737) (by decide +kernel), List.mem_of_getElem? (i := 738) (by decide +kernel)⟩
theorem lw_p27 : lw_okq (⟨"ChangeFeedModel", "kept", "(J)J"⟩, 39) := ⟨⟨by decide +kernel, by decide +kernel⟩, List.mem_of_getElem? (i := 580) (by decide +kernel), List.mem_of_getElem? (i := 741) (by decide +kernel), List.mem_of_getElem? (i := 742) (by decide +kernel)⟩
theorem lw_p28 : lw_okq (⟨"ChangeFeedModel", "room", "(II)Z"⟩, 39) := ⟨⟨by decide +kernel, by decide +kernel⟩, List.mem_of_getElem? (i := 580) (by decide +kernel), List.mem_of_getElem? (i := 762) (by decide +kernel), List.mem_of_getElem? (i := 763) (by decide +kernel)⟩
theorem lw_p29 : lw_okq (⟨"ChangeFeedModel", "isOpen", "(I)Z"⟩, 39) := ⟨⟨by decide +kernel, by decide +kernel⟩, List.mem_of_getElem? (i := 580) (by decide +kernel), List.mem_of_getElem? (i := 770) (by decide +kernel), List.mem_of_getElem? (i := 771) (by decide +kernel)⟩
theorem lw_p30 : lw_okq (⟨"ChangeFeedModel", "lockedFor", "(II)Z"⟩, 39) := ⟨⟨by decide +kernel, by decide +kernel⟩, List.mem_of_getElem? (i := 580) (by decide +kernel), List.mem_of_getElem? (i := 774) (by decide +kernel), List.mem_of_getElem? (i := 775) (by decide +kernel)⟩
theorem lw_p31 : lw_okq (⟨"ChangeFeedModel", "write", "(III)I"⟩, 39) := ⟨⟨by decide +kernel, by decide +kernel⟩, List.mem_of_getElem? (i := 580) (by decide +kernel), List.mem_of_getElem? (i := 782) (by decide +kernel), List.mem_of_getElem? (i := 783) (by decide +kernel)⟩
def lw_privs_2 : List (MethodName × Nat) := [(⟨"ChangeFeed$Sink", "storeChunk", "([JI)V"⟩, 7), (⟨"ChangeFeed$Sink", "storeRow", "(IJ)V"⟩, 7), (⟨"ChangeFeed$Sink", "storeChanges", "(I)V"⟩, 7), (⟨"ChangeFeed$Sink", "isOfGroup", "(II)Z"⟩, 7), (⟨"ChangeFeedModel", "isKey", "(I)Z"⟩, 39), (⟨"ChangeFeedModel", "speaks", "(II)Z"⟩, 39), (⟨"ChangeFeedModel", "lastBy", "(III)I"⟩, 39), (⟨"ChangeFeedModel", "struck", "(III)Z"⟩, 39), (⟨"ChangeFeedModel", "table", "(II)J"⟩, 39), (⟨"ChangeFeedModel", "made", "(I)J"⟩, 39), (⟨"ChangeFeedModel", "says", "(II)J"⟩, 39), (⟨"ChangeFeedModel", "kept", "(J)J"⟩, 39), (⟨"ChangeFeedModel", "room", "(II)Z"⟩, 39), (⟨"ChangeFeedModel", "isOpen", "(I)Z"⟩, 39), (⟨"ChangeFeedModel", "lockedFor", "(II)Z"⟩, 39), (⟨"ChangeFeedModel", "write", "(III)I"⟩, 39)]
theorem lw_r2 : ∀ q ∈ lw_privs_2, lw_okq q := List.forall_mem_cons.mpr ⟨lw_p16, List.forall_mem_cons.mpr ⟨lw_p17, List.forall_mem_cons.mpr ⟨lw_p18, List.forall_mem_cons.mpr ⟨lw_p19, List.forall_mem_cons.mpr ⟨lw_p20, List.forall_mem_cons.mpr ⟨lw_p21, List.forall_mem_cons.mpr ⟨lw_p22, List.forall_mem_cons.mpr ⟨lw_p23, List.forall_mem_cons.mpr ⟨lw_p24, List.forall_mem_cons.mpr ⟨lw_p25, List.forall_mem_cons.mpr ⟨lw_p26, List.forall_mem_cons.mpr ⟨lw_p27, List.forall_mem_cons.mpr ⟨lw_p28, List.forall_mem_cons.mpr ⟨lw_p29, List.forall_mem_cons.mpr ⟨lw_p30, List.forall_mem_cons.mpr ⟨lw_p31, fun _ h => absurd h List.not_mem_nil⟩⟩⟩⟩⟩⟩⟩⟩⟩⟩⟩⟩⟩⟩⟩⟩
theorem lw_p32 : lw_okq (⟨"ChangeFeedModel", "emit", "(I)V"⟩, 39) := ⟨⟨by decide +kernel, by decide +kernel⟩, List.mem_of_getElem? (i := 580) (by decide +kernel), List.mem_of_getElem? (i := 814) (by decide +kernel), List.mem_of_getElem? (i := 815) (by decide +kernel)⟩
theorem lw_p33 : lw_okq (⟨"ChangeFeedModel", "send", "(I)V"⟩, 39) := ⟨⟨by decide +kernel, by decide +kernel⟩, List.mem_of_getElem? (i := 580) (by decide +kernel), List.mem_of_getElem? (i := 818) (by decide +kernel), List.mem_of_getElem? (i := 819) (by decide +kernel)⟩
theorem lw_p34 : lw_okq (⟨"ChangeFeedModel", "add", "(IIII)V"⟩, 39) := ⟨⟨by decide +kernel, by decide +kernel⟩, List.mem_of_getElem? (i := 580) (by decide +kernel), List.mem_of_getElem? (i := 822) (by decide +kernel), List.mem_of_getElem? (i := 823) (by decide +kernel)⟩
theorem lw_p35 : lw_okq (⟨"ChangeFeedModel", "take", "(I)V"⟩, 39) := ⟨⟨by decide +kernel, by decide +kernel⟩, List.mem_of_getElem? (i := 580) (by decide +kernel), List.mem_of_getElem? (i := 838) (by decide +kernel), List.mem_of_getElem? (i := 839) (by decide +kernel)⟩
theorem lw_p36 : lw_okq (⟨"ChangeFeedModel", "leave", "(I)V"⟩, 39) := ⟨⟨by decide +kernel, by decide +kernel⟩, List.mem_of_getElem? (i := 580) (by decide +kernel), List.mem_of_getElem? (i := 842) (by decide +kernel), List.mem_of_getElem? (i := 843) (by decide +kernel)⟩
theorem lw_p37 : lw_okq (⟨"ChangeFeedModel", "acknowledge", "()V"⟩, 39) := ⟨⟨by decide +kernel, by decide +kernel⟩, List.mem_of_getElem? (i := 580) (by decide +kernel), List.mem_of_getElem? (i := 846) (by decide +kernel), List.mem_of_getElem? (i := 847) (by decide +kernel)⟩
def lw_privs_3 : List (MethodName × Nat) := [(⟨"ChangeFeedModel", "emit", "(I)V"⟩, 39), (⟨"ChangeFeedModel", "send", "(I)V"⟩, 39), (⟨"ChangeFeedModel", "add", "(IIII)V"⟩, 39), (⟨"ChangeFeedModel", "take", "(I)V"⟩, 39), (⟨"ChangeFeedModel", "leave", "(I)V"⟩, 39), (⟨"ChangeFeedModel", "acknowledge", "()V"⟩, 39)]
theorem lw_r3 : ∀ q ∈ lw_privs_3, lw_okq q := List.forall_mem_cons.mpr ⟨lw_p32, List.forall_mem_cons.mpr ⟨lw_p33, List.forall_mem_cons.mpr ⟨lw_p34, List.forall_mem_cons.mpr ⟨lw_p35, List.forall_mem_cons.mpr ⟨lw_p36, List.forall_mem_cons.mpr ⟨lw_p37, fun _ h => absurd h List.not_mem_nil⟩⟩⟩⟩⟩⟩
def lw_privs : List (MethodName × Nat) := lw_privs_1 ++ (lw_privs_2 ++ (lw_privs_3))
def lw_tbl : List Cond := k2_sels lw_privs ++ tables_1
theorem lw_privs_ok : ∀ q ∈ lw_privs, lw_okq q := by
  show ∀ q ∈ lw_privs_1 ++ (lw_privs_2 ++ (lw_privs_3)), lw_okq q
  exact List.forall_mem_append.mpr ⟨lw_r1, List.forall_mem_append.mpr ⟨lw_r2, lw_r3⟩⟩
end
section
/-! the judgement V: a world (cells), a list of locals; rows of one instruction over it -/
abbrev St : Type := (Nat → Int32) × (Nat → Nat → Int32) × (Nat → Nat → Int64)
def g_I (z : St) (k : Nat) : Int32 := z.1 k
def g_A (z : St) (k : Nat) : Nat → Int32 := z.2.1 k
def g_L (z : St) (k : Nat) : Nat → Int64 := z.2.2 k
def s_I (z : St) (k : Nat) (v : Int32) : St := (upd z.1 k v, z.2)
def s_A (z : St) (k j : Nat) (v : Int32) : St := (z.1, va_up z.2.1 k (upd (z.2.1 k) j v), z.2.2)
def s_F (z : St) (k : Nat) (f : Nat → Int32) : St := (z.1, va_up z.2.1 k f, z.2.2)
def s_L (z : St) (k j : Nat) (v : Int64) : St := (z.1, z.2.1, va_up z.2.2 k (vp_updL (z.2.2 k) j v))
def Cx (TS NS : List Cond) (cl : List vw_C) (D : va_G) (tys : List (ClassId × FieldType)) (p : Program) (s : State) (m : MethodId) (args : Array Value) (meth : Method) (c : Code) (cc : ByteArray) (nL : Nat) (own : String) : Prop :=
  p.tables.exec = Jvm.exec ∧ c.code = cc ∧ c.maxLocals = nL ∧ s.vm.findClass own = some m.cls ∧ (∀ w ∈ TS, w.before args s = true) ∧ (∀ w ∈ NS, va_Nw w s) ∧ va_K D cl tys s ∧ meth.locks = false
def V (cl : List vw_C) (p : Program) (l : Launch) (e : Env) (R : Room) (s : State) (m : MethodId) (args : Array Value) (below : List Frame) (meth : Method) (c : Code) (nL : Nat) (D : va_G) (A : Nat → Prop) (cells slots : Nat) (Q : State → Prop) (X : va_W) (pc : Nat) (L : List (Nat × Value)) (st : List Value) : Prop :=
  ∀ (H : Heap) (locs : List Loc) (ls : Array Slot), va_P D cl X H → va_D A X → va_S A s.heap H locs → lv_has ls nL L → W p l e R s m args below meth c H locs cells slots Q (F0 m pc ls st)
def isNest (w : Cond) : Prop := (∃ a i b n d h, w = .fieldLinkNest a i b n d h) ∨ (∃ a i x h, w = .methodLinkNest a i x h)
theorem nw_warm {NS : List Cond} {s U : State} (hN : ∀ w ∈ NS, isNest w) (hW : s.WarmedH U.vm) (h : ∀ w ∈ NS, va_Nw w s) : ∀ w ∈ NS, va_Nw w U := by
  intro w hw
  rcases hN w hw with ⟨a, i, b, n, d, q, rfl⟩ | ⟨a, i, x, q, rfl⟩
  · exact va_Nw.warmF hW (h _ hw)
  · exact va_Nw.warmM hW (h _ hw)
theorem nw_same {NS : List Cond} {s U : State} (hN : ∀ w ∈ NS, isNest w) (hv : s.vm = U.vm) (h : ∀ w ∈ NS, va_Nw w s) : ∀ w ∈ NS, va_Nw w U := by
  intro w hw
  rcases hN w hw with ⟨a, i, b, n, d, q, rfl⟩ | ⟨a, i, x, q, rfl⟩
  · exact va_Nw.same rfl hv (h _ hw)
  · exact va_Nw.same rfl hv (h _ hw)
def Wd (NS : List Cond) (cl : List vw_C) (D : va_G) (tys : List (ClassId × FieldType)) (WF : St → va_W) (A : Nat → Prop) (z : St) (U : State) : Prop := va_P D cl (WF z) U.heap ∧ va_K D cl tys U ∧ va_D A (WF z) ∧ ∀ w ∈ NS, va_Nw w U
def AX (n : Nat) (a : Nat → Nat) (sz : Nat) (q : Nat) : Prop := (∃ k, k < n ∧ q = a k) ∨ sz ≤ q
theorem AX.up {n : Nat} {a : Nat → Nat} {s1 s2 q : Nat} (h : s1 ≤ s2) (hq : AX n a s2 q) : AX n a s1 q := by
  rcases hq with hq | hq
  · exact Or.inl hq
  · exact Or.inr (Nat.le_trans h hq)
/-- all addresses of a world are among a 0 .. a (n - 1) -/
def Ad (n : Nat) (a : Nat → Nat) (WF : St → va_W) : Prop := ∀ (z : St) (i : Nat) (q : Nat × va_E), (WF z)[i]? = some q → ∃ k, k < n ∧ q.1 = a k
def Qg (NS : List Cond) (cl : List vw_C) (D : va_G) (tys : List (ClassId × FieldType)) (WF : St → va_W) (A : Nat → Prop) {ρ : Type} (mk : ρ → Option Value) (Q : ρ → St → Prop) : Array Value → State → Outcome → State → Prop := fun _ st oc t => (∃ (r : ρ) (u : St), oc = .returned (mk r) ∧ Q r u ∧ Wd NS cl D tys WF A u t) ∧ va_F A st t
def mkI (r : Int32) : Option Value := some (.int r)
def mkL (r : Int64) : Option Value := some (.long r)
def mkV (_ : Unit) : Option Value := none
def Ct (l : Launch) (NS : List Cond) (cl : List vw_C) (D : va_G) (tys : List (ClassId × FieldType)) (n : Nat) (a : Nat → Nat) (WF : St → va_W) {ρ : Type} (mk : ρ → Option Value) (y : MethodName) (ws : List Cond) (rm : Room) (av : List Value) (z : St) (wp : (ρ → St → Prop) → Prop) : Prop :=
  ∀ (sz : Nat) (Q : ρ → St → Prop), Met l y ws rm (va_Pc av (fun U => U.heap.size = sz ∧ Wd NS cl D tys WF (fun _ => True) z U ∧ wp Q)) (Qg NS cl D tys WF (AX n a sz) mk Q) 0 0 (AX n a sz)
section VB
variable {cl : List vw_C} {p : Program} {l : Launch} {e : Env} {R : Room} {s : State} {m : MethodId} {args : Array Value} {below : List Frame} {meth : Method} {c : Code} {nL : Nat} {D : va_G} {A : Nat → Prop} {cells slots : Nat} {Q : State → Prop} {X : va_W} {pc : Nat} {L : List (Nat × Value)} {st : List Value} {TS NS : List Cond} {tys : List (ClassId × FieldType)} {cc : ByteArray} {own : String}
theorem V_iconst (hc : Cx TS NS cl D tys p s m args meth c cc nL own) {n : Int} {v : Int32} (hdg : decode cc pc = .ok (.iconst n, 1)) (hv : Int32.ofInt n = v) (k : V cl p l e R s m args below meth c nL D A cells slots (Q) (X) (pc + 1) (L) (.int v :: st)) : V cl p l e R s m args below meth c nL D A cells slots (Q) (X) (pc) (L) (st) := fun H locs ls hP hD hS hL => lv_iconst hc.1 hc.2.1 hdg hv (k H locs ls hP hD hS hL)
theorem V_bipush (hc : Cx TS NS cl D tys p s m args meth c cc nL own) {n : Int} {v : Int32} (hdg : decode cc pc = .ok (.bipush n, 2)) (hv : (Int8.ofInt n).toInt32 = v) (k : V cl p l e R s m args below meth c nL D A cells slots (Q) (X) (pc + 2) (L) (.int v :: st)) : V cl p l e R s m args below meth c nL D A cells slots (Q) (X) (pc) (L) (st) := fun H locs ls hP hD hS hL => lv_bipush hc.1 hc.2.1 hdg hv (k H locs ls hP hD hS hL)
theorem V_sipush (hc : Cx TS NS cl D tys p s m args meth c cc nL own) {n : Int} {v : Int32} (hdg : decode cc pc = .ok (.sipush n, 3)) (hv : (Int16.ofInt n).toInt32 = v) (k : V cl p l e R s m args below meth c nL D A cells slots (Q) (X) (pc + 3) (L) (.int v :: st)) : V cl p l e R s m args below meth c nL D A cells slots (Q) (X) (pc) (L) (st) := fun H locs ls hP hD hS hL => lv_sipush hc.1 hc.2.1 hdg hv (k H locs ls hP hD hS hL)
theorem V_lconst (hc : Cx TS NS cl D tys p s m args meth c cc nL own) {n : Fin 2} {v : Int64} (hdg : decode cc pc = .ok (.lconst n, 1)) (hv : Int64.ofNat (n : Nat) = v) (k : V cl p l e R s m args below meth c nL D A cells slots (Q) (X) (pc + 1) (L) (.long v :: st)) : V cl p l e R s m args below meth c nL D A cells slots (Q) (X) (pc) (L) (st) := fun H locs ls hP hD hS hL => lv_lconst hc.1 hc.2.1 hdg hv (k H locs ls hP hD hS hL)
theorem V_ldc (hc : Cx TS NS cl D tys p s m args meth c cc nL own) {index : Nat} {v : Int32} (hk : Cond.constant own index v ∈ TS) (hdg : decode cc pc = .ok (.ldc index, 2)) (k : V cl p l e R s m args below meth c nL D A cells slots (Q) (X) (pc + 2) (L) (.int v :: st)) : V cl p l e R s m args below meth c nL D A cells slots (Q) (X) (pc) (L) (st) := fun H locs ls hP hD hS hL => lv_ldc hc.1 hc.2.1 hc.2.2.2.1 (hc.2.2.2.2.1 _ hk) hdg (k H locs ls hP hD hS hL)
theorem V_ldc2 (hc : Cx TS NS cl D tys p s m args meth c cc nL own) {index : Nat} {v : Int64} (hk : Cond.constantLong own index v ∈ TS) (hdg : decode cc pc = .ok (.ldc2_w index, 3)) (k : V cl p l e R s m args below meth c nL D A cells slots (Q) (X) (pc + 3) (L) (.long v :: st)) : V cl p l e R s m args below meth c nL D A cells slots (Q) (X) (pc) (L) (st) := fun H locs ls hP hD hS hL => lv_ldc2 hc.1 hc.2.1 hc.2.2.2.1 (hc.2.2.2.2.1 _ hk) hdg (k H locs ls hP hD hS hL)
theorem V_iload_n (hc : Cx TS NS cl D tys p s m args meth c cc nL own) {k : Fin 4} {i : Nat} {x : Int32} (hdg : decode cc pc = .ok (.iload_n k, 1)) (hi : (k : Nat) = i) (j : Nat) (hj : L[j]? = some (i, .int x)) (kk : V cl p l e R s m args below meth c nL D A cells slots (Q) (X) (pc + 1) (L) (.int x :: st)) : V cl p l e R s m args below meth c nL D A cells slots (Q) (X) (pc) (L) (st) := fun H locs ls hP hD hS hL => lv_iload_n hc.1 hc.2.1 hdg hi (lv_at hL j hj) (kk H locs ls hP hD hS hL)
theorem V_iload (hc : Cx TS NS cl D tys p s m args meth c cc nL own) {i : Nat} {x : Int32} (hdg : decode cc pc = .ok (.iload i, 2)) (j : Nat) (hj : L[j]? = some (i, .int x)) (kk : V cl p l e R s m args below meth c nL D A cells slots (Q) (X) (pc + 2) (L) (.int x :: st)) : V cl p l e R s m args below meth c nL D A cells slots (Q) (X) (pc) (L) (st) := fun H locs ls hP hD hS hL => lv_iload hc.1 hc.2.1 hdg (lv_at hL j hj) (kk H locs ls hP hD hS hL)
theorem V_istore_n (hc : Cx TS NS cl D tys p s m args meth c cc nL own) {k : Fin 4} {i : Nat} {x : Int32} (L' : List (Nat × Value)) (hdg : decode cc pc = .ok (.istore_n k, 1)) (hi : (k : Nat) = i) (hn : i < nL) (hl : (i, Value.int x) :: L.filter (fun q => !(q.1 == i) && !(q.1 + 1 == i && q.2.category == 2)) = L') (kk : V cl p l e R s m args below meth c nL D A cells slots (Q) (X) (pc + 1) (L') (st)) : V cl p l e R s m args below meth c nL D A cells slots (Q) (X) (pc) (L) (.int x :: st) := fun H locs ls hP hD hS hL => lv_istore_n hc.1 hc.2.1 hdg hi hL hn hl (fun ls' hL' => kk H locs ls' hP hD hS hL')
theorem V_istore (hc : Cx TS NS cl D tys p s m args meth c cc nL own) {i : Nat} {x : Int32} (L' : List (Nat × Value)) (hdg : decode cc pc = .ok (.istore i, 2)) (hn : i < nL) (hl : (i, Value.int x) :: L.filter (fun q => !(q.1 == i) && !(q.1 + 1 == i && q.2.category == 2)) = L') (kk : V cl p l e R s m args below meth c nL D A cells slots (Q) (X) (pc + 2) (L') (st)) : V cl p l e R s m args below meth c nL D A cells slots (Q) (X) (pc) (L) (.int x :: st) := fun H locs ls hP hD hS hL => lv_istore hc.1 hc.2.1 hdg hL hn hl (fun ls' hL' => kk H locs ls' hP hD hS hL')
theorem V_lload_n (hc : Cx TS NS cl D tys p s m args meth c cc nL own) {k : Fin 4} {i : Nat} {x : Int64} (hdg : decode cc pc = .ok (.lload_n k, 1)) (hi : (k : Nat) = i) (j : Nat) (hj : L[j]? = some (i, .long x)) (kk : V cl p l e R s m args below meth c nL D A cells slots (Q) (X) (pc + 1) (L) (.long x :: st)) : V cl p l e R s m args below meth c nL D A cells slots (Q) (X) (pc) (L) (st) := fun H locs ls hP hD hS hL => lv_lload_n hc.1 hc.2.1 hdg hi (lv_at hL j hj) (kk H locs ls hP hD hS hL)
theorem V_lload (hc : Cx TS NS cl D tys p s m args meth c cc nL own) {i : Nat} {x : Int64} (hdg : decode cc pc = .ok (.lload i, 2)) (j : Nat) (hj : L[j]? = some (i, .long x)) (kk : V cl p l e R s m args below meth c nL D A cells slots (Q) (X) (pc + 2) (L) (.long x :: st)) : V cl p l e R s m args below meth c nL D A cells slots (Q) (X) (pc) (L) (st) := fun H locs ls hP hD hS hL => lv_lload hc.1 hc.2.1 hdg (lv_at hL j hj) (kk H locs ls hP hD hS hL)
theorem V_lstore_n (hc : Cx TS NS cl D tys p s m args meth c cc nL own) {k : Fin 4} {i : Nat} {x : Int64} (L' : List (Nat × Value)) (hdg : decode cc pc = .ok (.lstore_n k, 1)) (hi : (k : Nat) = i) (hn : i + 1 < nL) (hl : (i, Value.long x) :: L.filter (fun q => !(q.1 == i) && (!(q.1 == i + 1) && !(q.1 + 1 == i && q.2.category == 2))) = L') (kk : V cl p l e R s m args below meth c nL D A cells slots (Q) (X) (pc + 1) (L') (st)) : V cl p l e R s m args below meth c nL D A cells slots (Q) (X) (pc) (L) (.long x :: st) := fun H locs ls hP hD hS hL => lv_lstore_n hc.1 hc.2.1 hdg hi hL hn hl (fun ls' hL' => kk H locs ls' hP hD hS hL')
theorem V_lstore (hc : Cx TS NS cl D tys p s m args meth c cc nL own) {i : Nat} {x : Int64} (L' : List (Nat × Value)) (hdg : decode cc pc = .ok (.lstore i, 2)) (hn : i + 1 < nL) (hl : (i, Value.long x) :: L.filter (fun q => !(q.1 == i) && (!(q.1 == i + 1) && !(q.1 + 1 == i && q.2.category == 2))) = L') (kk : V cl p l e R s m args below meth c nL D A cells slots (Q) (X) (pc + 2) (L') (st)) : V cl p l e R s m args below meth c nL D A cells slots (Q) (X) (pc) (L) (.long x :: st) := fun H locs ls hP hD hS hL => lv_lstore hc.1 hc.2.1 hdg hL hn hl (fun ls' hL' => kk H locs ls' hP hD hS hL')
theorem V_aload_n (hc : Cx TS NS cl D tys p s m args meth c cc nL own) {k : Fin 4} {i : Nat} {x : Nat} (hdg : decode cc pc = .ok (.aload_n k, 1)) (hi : (k : Nat) = i) (j : Nat) (hj : L[j]? = some (i, .ref x)) (kk : V cl p l e R s m args below meth c nL D A cells slots (Q) (X) (pc + 1) (L) (.ref x :: st)) : V cl p l e R s m args below meth c nL D A cells slots (Q) (X) (pc) (L) (st) := fun H locs ls hP hD hS hL => lv_aload_n hc.1 hc.2.1 hdg hi (lv_at hL j hj) (kk H locs ls hP hD hS hL)
theorem V_aload (hc : Cx TS NS cl D tys p s m args meth c cc nL own) {i : Nat} {x : Nat} (hdg : decode cc pc = .ok (.aload i, 2)) (j : Nat) (hj : L[j]? = some (i, .ref x)) (kk : V cl p l e R s m args below meth c nL D A cells slots (Q) (X) (pc + 2) (L) (.ref x :: st)) : V cl p l e R s m args below meth c nL D A cells slots (Q) (X) (pc) (L) (st) := fun H locs ls hP hD hS hL => lv_aload hc.1 hc.2.1 hdg (lv_at hL j hj) (kk H locs ls hP hD hS hL)
theorem V_astore_n (hc : Cx TS NS cl D tys p s m args meth c cc nL own) {k : Fin 4} {i : Nat} {x : Nat} (L' : List (Nat × Value)) (hdg : decode cc pc = .ok (.astore_n k, 1)) (hi : (k : Nat) = i) (hn : i < nL) (hl : (i, Value.ref x) :: L.filter (fun q => !(q.1 == i) && !(q.1 + 1 == i && q.2.category == 2)) = L') (kk : V cl p l e R s m args below meth c nL D A cells slots (Q) (X) (pc + 1) (L') (st)) : V cl p l e R s m args below meth c nL D A cells slots (Q) (X) (pc) (L) (.ref x :: st) := fun H locs ls hP hD hS hL => lv_astore_n hc.1 hc.2.1 hdg hi hL hn hl (fun ls' hL' => kk H locs ls' hP hD hS hL')
theorem V_astore (hc : Cx TS NS cl D tys p s m args meth c cc nL own) {i : Nat} {x : Nat} (L' : List (Nat × Value)) (hdg : decode cc pc = .ok (.astore i, 2)) (hn : i < nL) (hl : (i, Value.ref x) :: L.filter (fun q => !(q.1 == i) && !(q.1 + 1 == i && q.2.category == 2)) = L') (kk : V cl p l e R s m args below meth c nL D A cells slots (Q) (X) (pc + 2) (L') (st)) : V cl p l e R s m args below meth c nL D A cells slots (Q) (X) (pc) (L) (.ref x :: st) := fun H locs ls hP hD hS hL => lv_astore hc.1 hc.2.1 hdg hL hn hl (fun ls' hL' => kk H locs ls' hP hD hS hL')
theorem V_iinc (hc : Cx TS NS cl D tys p s m args meth c cc nL own) {i : Nat} {n : Int} {x v : Int32} (L' : List (Nat × Value)) (hdg : decode cc pc = .ok (.iinc i n, 3)) (j : Nat) (hj : L[j]? = some (i, .int x)) (hv : x + Int32.ofInt n = v) (hn : i < nL) (hl : (i, Value.int v) :: L.filter (fun q => !(q.1 == i) && !(q.1 + 1 == i && q.2.category == 2)) = L') (kk : V cl p l e R s m args below meth c nL D A cells slots (Q) (X) (pc + 3) (L') (st)) : V cl p l e R s m args below meth c nL D A cells slots (Q) (X) (pc) (L) (st) := fun H locs ls hP hD hS hL => lv_iinc hc.1 hc.2.1 hdg hL hj hv hn hl (fun ls' hL' => kk H locs ls' hP hD hS hL')
theorem V_sub (ks : List Nat) (L' : List (Nat × Value)) (h : lv_pick L ks = L') (kk : V cl p l e R s m args below meth c nL D A cells slots (Q) (X) (pc) (L') (st)) : V cl p l e R s m args below meth c nL D A cells slots (Q) (X) (pc) (L) (st) := fun H locs ls hP hD hS hL => kk H locs ls hP hD hS (lv_sub hL ks h)
theorem V_st (X' : va_W) (L' : List (Nat × Value)) (st' : List Value) (hX : X = X') (hL : L = L') (hs : st = st') (kk : V cl p l e R s m args below meth c nL D A cells slots (Q) (X') (pc) (L') (st')) : V cl p l e R s m args below meth c nL D A cells slots (Q) (X) (pc) (L) (st) := by subst hX; subst hL; subst hs; exact kk
theorem V_iadd (hc : Cx TS NS cl D tys p s m args meth c cc nL own) {x y v : Int32} (hdg : decode cc pc = .ok (.iadd, 1)) (hv : x + y = v) (k : V cl p l e R s m args below meth c nL D A cells slots (Q) (X) (pc + 1) (L) (.int v :: st)) : V cl p l e R s m args below meth c nL D A cells slots (Q) (X) (pc) (L) (.int y :: .int x :: st) := fun H locs ls hP hD hS hL => lv_iadd hc.1 hc.2.1 hdg (hv ▸ k H locs ls hP hD hS hL)
theorem V_isub (hc : Cx TS NS cl D tys p s m args meth c cc nL own) {x y v : Int32} (hdg : decode cc pc = .ok (.isub, 1)) (hv : x - y = v) (k : V cl p l e R s m args below meth c nL D A cells slots (Q) (X) (pc + 1) (L) (.int v :: st)) : V cl p l e R s m args below meth c nL D A cells slots (Q) (X) (pc) (L) (.int y :: .int x :: st) := fun H locs ls hP hD hS hL => lv_isub hc.1 hc.2.1 hdg (hv ▸ k H locs ls hP hD hS hL)
theorem V_imul (hc : Cx TS NS cl D tys p s m args meth c cc nL own) {x y v : Int32} (hdg : decode cc pc = .ok (.imul, 1)) (hv : x * y = v) (k : V cl p l e R s m args below meth c nL D A cells slots (Q) (X) (pc + 1) (L) (.int v :: st)) : V cl p l e R s m args below meth c nL D A cells slots (Q) (X) (pc) (L) (.int y :: .int x :: st) := fun H locs ls hP hD hS hL => lv_imul hc.1 hc.2.1 hdg (hv ▸ k H locs ls hP hD hS hL)
theorem V_iand (hc : Cx TS NS cl D tys p s m args meth c cc nL own) {x y v : Int32} (hdg : decode cc pc = .ok (.iand, 1)) (hv : x &&& y = v) (k : V cl p l e R s m args below meth c nL D A cells slots (Q) (X) (pc + 1) (L) (.int v :: st)) : V cl p l e R s m args below meth c nL D A cells slots (Q) (X) (pc) (L) (.int y :: .int x :: st) := fun H locs ls hP hD hS hL => lv_iand hc.1 hc.2.1 hdg (hv ▸ k H locs ls hP hD hS hL)
theorem V_ladd (hc : Cx TS NS cl D tys p s m args meth c cc nL own) {x y v : Int64} (hdg : decode cc pc = .ok (.ladd, 1)) (hv : x + y = v) (k : V cl p l e R s m args below meth c nL D A cells slots (Q) (X) (pc + 1) (L) (.long v :: st)) : V cl p l e R s m args below meth c nL D A cells slots (Q) (X) (pc) (L) (.long y :: .long x :: st) := fun H locs ls hP hD hS hL => lv_ladd hc.1 hc.2.1 hdg (hv ▸ k H locs ls hP hD hS hL)
theorem V_land (hc : Cx TS NS cl D tys p s m args meth c cc nL own) {x y v : Int64} (hdg : decode cc pc = .ok (.land, 1)) (hv : x &&& y = v) (k : V cl p l e R s m args below meth c nL D A cells slots (Q) (X) (pc + 1) (L) (.long v :: st)) : V cl p l e R s m args below meth c nL D A cells slots (Q) (X) (pc) (L) (.long y :: .long x :: st) := fun H locs ls hP hD hS hL => lv_land hc.1 hc.2.1 hdg (hv ▸ k H locs ls hP hD hS hL)
theorem V_lor (hc : Cx TS NS cl D tys p s m args meth c cc nL own) {x y v : Int64} (hdg : decode cc pc = .ok (.lor, 1)) (hv : x ||| y = v) (k : V cl p l e R s m args below meth c nL D A cells slots (Q) (X) (pc + 1) (L) (.long v :: st)) : V cl p l e R s m args below meth c nL D A cells slots (Q) (X) (pc) (L) (.long y :: .long x :: st) := fun H locs ls hP hD hS hL => lv_lor hc.1 hc.2.1 hdg (hv ▸ k H locs ls hP hD hS hL)
theorem V_irem (hc : Cx TS NS cl D tys p s m args meth c cc nL own) {x y v : Int32} (hdg : decode cc pc = .ok (.irem, 1)) (hne : ¬ y = 0) (hv : x - x / y * y = v) (k : V cl p l e R s m args below meth c nL D A cells slots (Q) (X) (pc + 1) (L) (.int v :: st)) : V cl p l e R s m args below meth c nL D A cells slots (Q) (X) (pc) (L) (.int y :: .int x :: st) := fun H locs ls hP hD hS hL => lv_irem hc.1 hc.2.1 hdg hne (hv ▸ k H locs ls hP hD hS hL)
theorem V_i2l (hc : Cx TS NS cl D tys p s m args meth c cc nL own) {x : Int32} {v : Int64} (hdg : decode cc pc = .ok (.i2l, 1)) (hv : x.toInt64 = v) (k : V cl p l e R s m args below meth c nL D A cells slots (Q) (X) (pc + 1) (L) (.long v :: st)) : V cl p l e R s m args below meth c nL D A cells slots (Q) (X) (pc) (L) (.int x :: st) := fun H locs ls hP hD hS hL => lv_i2l hc.1 hc.2.1 hdg hv (k H locs ls hP hD hS hL)
theorem V_l2i (hc : Cx TS NS cl D tys p s m args meth c cc nL own) {x : Int64} {v : Int32} (hdg : decode cc pc = .ok (.l2i, 1)) (hv : x.toInt32 = v) (k : V cl p l e R s m args below meth c nL D A cells slots (Q) (X) (pc + 1) (L) (.int v :: st)) : V cl p l e R s m args below meth c nL D A cells slots (Q) (X) (pc) (L) (.long x :: st) := fun H locs ls hP hD hS hL => lv_l2i hc.1 hc.2.1 hdg hv (k H locs ls hP hD hS hL)
theorem V_lshl (hc : Cx TS NS cl D tys p s m args meth c cc nL own) {x v : Int64} {y : Int32} (hdg : decode cc pc = .ok (.lshl, 1)) (hv : x <<< (y.toInt64 &&& 63) = v) (k : V cl p l e R s m args below meth c nL D A cells slots (Q) (X) (pc + 1) (L) (.long v :: st)) : V cl p l e R s m args below meth c nL D A cells slots (Q) (X) (pc) (L) (.int y :: .long x :: st) := fun H locs ls hP hD hS hL => lv_lshl hc.1 hc.2.1 hdg hv (k H locs ls hP hD hS hL)
theorem V_lshr (hc : Cx TS NS cl D tys p s m args meth c cc nL own) {x v : Int64} {y : Int32} (hdg : decode cc pc = .ok (.lshr, 1)) (hv : x >>> (y.toInt64 &&& 63) = v) (k : V cl p l e R s m args below meth c nL D A cells slots (Q) (X) (pc + 1) (L) (.long v :: st)) : V cl p l e R s m args below meth c nL D A cells slots (Q) (X) (pc) (L) (.int y :: .long x :: st) := fun H locs ls hP hD hS hL => lv_lshr hc.1 hc.2.1 hdg hv (k H locs ls hP hD hS hL)
theorem V_lcmp (hc : Cx TS NS cl D tys p s m args meth c cc nL own) {x y : Int64} {v : Int32} (hdg : decode cc pc = .ok (.lcmp, 1)) (hv : lg_cmp x y = v) (k : V cl p l e R s m args below meth c nL D A cells slots (Q) (X) (pc + 1) (L) (.int v :: st)) : V cl p l e R s m args below meth c nL D A cells slots (Q) (X) (pc) (L) (.long y :: .long x :: st) := fun H locs ls hP hD hS hL => W.lcmp hc.1 hc.2.1 hdg (hv ▸ k H locs ls hP hD hS hL)
theorem V_dup (hc : Cx TS NS cl D tys p s m args meth c cc nL own) {va : Value} (hdg : decode cc pc = .ok (.dup, 1)) (hva : va.category = 1) (k : V cl p l e R s m args below meth c nL D A cells slots (Q) (X) (pc + 1) (L) (va :: va :: st)) : V cl p l e R s m args below meth c nL D A cells slots (Q) (X) (pc) (L) (va :: st) := fun H locs ls hP hD hS hL => lv_dup hc.1 hc.2.1 hdg hva (k H locs ls hP hD hS hL)
theorem V_pop (hc : Cx TS NS cl D tys p s m args meth c cc nL own) {va : Value} (hdg : decode cc pc = .ok (.pop, 1)) (hva : va.category = 1) (k : V cl p l e R s m args below meth c nL D A cells slots (Q) (X) (pc + 1) (L) (st)) : V cl p l e R s m args below meth c nL D A cells slots (Q) (X) (pc) (L) (va :: st) := fun H locs ls hP hD hS hL => lv_pop hc.1 hc.2.1 hdg hva (k H locs ls hP hD hS hL)
theorem V_pop2_2 (hc : Cx TS NS cl D tys p s m args meth c cc nL own) {va : Value} (hdg : decode cc pc = .ok (.pop2, 1)) (hva : va.category = 2) (k : V cl p l e R s m args below meth c nL D A cells slots (Q) (X) (pc + 1) (L) (st)) : V cl p l e R s m args below meth c nL D A cells slots (Q) (X) (pc) (L) (va :: st) := fun H locs ls hP hD hS hL => lv_pop2_2 hc.1 hc.2.1 hdg hva (k H locs ls hP hD hS hL)
theorem V_dup_x1 (hc : Cx TS NS cl D tys p s m args meth c cc nL own) {va vb : Value} (hdg : decode cc pc = .ok (.dup_x1, 1)) (hva : va.category = 1) (hvb : vb.category = 1) (k : V cl p l e R s m args below meth c nL D A cells slots (Q) (X) (pc + 1) (L) (va :: vb :: va :: st)) : V cl p l e R s m args below meth c nL D A cells slots (Q) (X) (pc) (L) (va :: vb :: st) := fun H locs ls hP hD hS hL => lv_dup_x1 hc.1 hc.2.1 hdg hva hvb (k H locs ls hP hD hS hL)
theorem V_dup2_11 (hc : Cx TS NS cl D tys p s m args meth c cc nL own) {va vb : Value} (hdg : decode cc pc = .ok (.dup2, 1)) (hva : va.category = 1) (hvb : vb.category = 1) (k : V cl p l e R s m args below meth c nL D A cells slots (Q) (X) (pc + 1) (L) (va :: vb :: va :: vb :: st)) : V cl p l e R s m args below meth c nL D A cells slots (Q) (X) (pc) (L) (va :: vb :: st) := fun H locs ls hP hD hS hL => lv_dup2_11 hc.1 hc.2.1 hdg hva hvb (k H locs ls hP hD hS hL)
theorem V_if_eq (hc : Cx TS NS cl D tys p s m args meth c cc nL own) {x : Int32} {off : Int} {tgt : Nat} (hdg : decode cc pc = .ok (.ifCond .eq off, 3)) (ht : (pc : Int) + off = (tgt : Int)) (kt : x = 0 → V cl p l e R s m args below meth c nL D A cells slots (Q) (X) (tgt) (L) (st)) (kf : ¬ x = 0 → V cl p l e R s m args below meth c nL D A cells slots (Q) (X) (pc + 3) (L) (st)) : V cl p l e R s m args below meth c nL D A cells slots (Q) (X) (pc) (L) (.int x :: st) := fun H locs ls hP hD hS hL => lv_if_eq hc.1 hc.2.1 hdg ht (fun h => kt h H locs ls hP hD hS hL) (fun h => kf h H locs ls hP hD hS hL)
theorem V_if_ne (hc : Cx TS NS cl D tys p s m args meth c cc nL own) {x : Int32} {off : Int} {tgt : Nat} (hdg : decode cc pc = .ok (.ifCond .ne off, 3)) (ht : (pc : Int) + off = (tgt : Int)) (kt : ¬ x = 0 → V cl p l e R s m args below meth c nL D A cells slots (Q) (X) (tgt) (L) (st)) (kf : x = 0 → V cl p l e R s m args below meth c nL D A cells slots (Q) (X) (pc + 3) (L) (st)) : V cl p l e R s m args below meth c nL D A cells slots (Q) (X) (pc) (L) (.int x :: st) := fun H locs ls hP hD hS hL => lv_if_ne hc.1 hc.2.1 hdg ht (fun h => kt h H locs ls hP hD hS hL) (fun h => kf h H locs ls hP hD hS hL)
theorem V_if_lt (hc : Cx TS NS cl D tys p s m args meth c cc nL own) {x : Int32} {off : Int} {tgt : Nat} (hdg : decode cc pc = .ok (.ifCond .lt off, 3)) (ht : (pc : Int) + off = (tgt : Int)) (kt : x < 0 → V cl p l e R s m args below meth c nL D A cells slots (Q) (X) (tgt) (L) (st)) (kf : ¬ x < 0 → V cl p l e R s m args below meth c nL D A cells slots (Q) (X) (pc + 3) (L) (st)) : V cl p l e R s m args below meth c nL D A cells slots (Q) (X) (pc) (L) (.int x :: st) := fun H locs ls hP hD hS hL => lv_if_lt hc.1 hc.2.1 hdg ht (fun h => kt h H locs ls hP hD hS hL) (fun h => kf h H locs ls hP hD hS hL)
theorem V_if_ge (hc : Cx TS NS cl D tys p s m args meth c cc nL own) {x : Int32} {off : Int} {tgt : Nat} (hdg : decode cc pc = .ok (.ifCond .ge off, 3)) (ht : (pc : Int) + off = (tgt : Int)) (kt : 0 ≤ x → V cl p l e R s m args below meth c nL D A cells slots (Q) (X) (tgt) (L) (st)) (kf : ¬ 0 ≤ x → V cl p l e R s m args below meth c nL D A cells slots (Q) (X) (pc + 3) (L) (st)) : V cl p l e R s m args below meth c nL D A cells slots (Q) (X) (pc) (L) (.int x :: st) := fun H locs ls hP hD hS hL => lv_if_ge hc.1 hc.2.1 hdg ht (fun h => kt h H locs ls hP hD hS hL) (fun h => kf h H locs ls hP hD hS hL)
theorem V_if_gt (hc : Cx TS NS cl D tys p s m args meth c cc nL own) {x : Int32} {off : Int} {tgt : Nat} (hdg : decode cc pc = .ok (.ifCond .gt off, 3)) (ht : (pc : Int) + off = (tgt : Int)) (kt : 0 < x → V cl p l e R s m args below meth c nL D A cells slots (Q) (X) (tgt) (L) (st)) (kf : ¬ 0 < x → V cl p l e R s m args below meth c nL D A cells slots (Q) (X) (pc + 3) (L) (st)) : V cl p l e R s m args below meth c nL D A cells slots (Q) (X) (pc) (L) (.int x :: st) := fun H locs ls hP hD hS hL => lv_if_gt hc.1 hc.2.1 hdg ht (fun h => kt h H locs ls hP hD hS hL) (fun h => kf h H locs ls hP hD hS hL)
theorem V_if_le (hc : Cx TS NS cl D tys p s m args meth c cc nL own) {x : Int32} {off : Int} {tgt : Nat} (hdg : decode cc pc = .ok (.ifCond .le off, 3)) (ht : (pc : Int) + off = (tgt : Int)) (kt : x ≤ 0 → V cl p l e R s m args below meth c nL D A cells slots (Q) (X) (tgt) (L) (st)) (kf : ¬ x ≤ 0 → V cl p l e R s m args below meth c nL D A cells slots (Q) (X) (pc + 3) (L) (st)) : V cl p l e R s m args below meth c nL D A cells slots (Q) (X) (pc) (L) (.int x :: st) := fun H locs ls hP hD hS hL => lv_if_le hc.1 hc.2.1 hdg ht (fun h => kt h H locs ls hP hD hS hL) (fun h => kf h H locs ls hP hD hS hL)
theorem V_icmp_eq (hc : Cx TS NS cl D tys p s m args meth c cc nL own) {x y : Int32} {off : Int} {tgt : Nat} (hdg : decode cc pc = .ok (.if_icmp .eq off, 3)) (ht : (pc : Int) + off = (tgt : Int)) (kt : x = y → V cl p l e R s m args below meth c nL D A cells slots (Q) (X) (tgt) (L) (st)) (kf : ¬ x = y → V cl p l e R s m args below meth c nL D A cells slots (Q) (X) (pc + 3) (L) (st)) : V cl p l e R s m args below meth c nL D A cells slots (Q) (X) (pc) (L) (.int y :: .int x :: st) := fun H locs ls hP hD hS hL => lv_icmp_eq hc.1 hc.2.1 hdg ht (fun h => kt h H locs ls hP hD hS hL) (fun h => kf h H locs ls hP hD hS hL)
theorem V_icmp_ne (hc : Cx TS NS cl D tys p s m args meth c cc nL own) {x y : Int32} {off : Int} {tgt : Nat} (hdg : decode cc pc = .ok (.if_icmp .ne off, 3)) (ht : (pc : Int) + off = (tgt : Int)) (kt : ¬ x = y → V cl p l e R s m args below meth c nL D A cells slots (Q) (X) (tgt) (L) (st)) (kf : x = y → V cl p l e R s m args below meth c nL D A cells slots (Q) (X) (pc + 3) (L) (st)) : V cl p l e R s m args below meth c nL D A cells slots (Q) (X) (pc) (L) (.int y :: .int x :: st) := fun H locs ls hP hD hS hL => lv_icmp_ne hc.1 hc.2.1 hdg ht (fun h => kt h H locs ls hP hD hS hL) (fun h => kf h H locs ls hP hD hS hL)
theorem V_icmp_lt (hc : Cx TS NS cl D tys p s m args meth c cc nL own) {x y : Int32} {off : Int} {tgt : Nat} (hdg : decode cc pc = .ok (.if_icmp .lt off, 3)) (ht : (pc : Int) + off = (tgt : Int)) (kt : x < y → V cl p l e R s m args below meth c nL D A cells slots (Q) (X) (tgt) (L) (st)) (kf : ¬ x < y → V cl p l e R s m args below meth c nL D A cells slots (Q) (X) (pc + 3) (L) (st)) : V cl p l e R s m args below meth c nL D A cells slots (Q) (X) (pc) (L) (.int y :: .int x :: st) := fun H locs ls hP hD hS hL => lv_icmp_lt hc.1 hc.2.1 hdg ht (fun h => kt h H locs ls hP hD hS hL) (fun h => kf h H locs ls hP hD hS hL)
theorem V_icmp_ge (hc : Cx TS NS cl D tys p s m args meth c cc nL own) {x y : Int32} {off : Int} {tgt : Nat} (hdg : decode cc pc = .ok (.if_icmp .ge off, 3)) (ht : (pc : Int) + off = (tgt : Int)) (kt : y ≤ x → V cl p l e R s m args below meth c nL D A cells slots (Q) (X) (tgt) (L) (st)) (kf : ¬ y ≤ x → V cl p l e R s m args below meth c nL D A cells slots (Q) (X) (pc + 3) (L) (st)) : V cl p l e R s m args below meth c nL D A cells slots (Q) (X) (pc) (L) (.int y :: .int x :: st) := fun H locs ls hP hD hS hL => lv_icmp_ge hc.1 hc.2.1 hdg ht (fun h => kt h H locs ls hP hD hS hL) (fun h => kf h H locs ls hP hD hS hL)
theorem V_icmp_gt (hc : Cx TS NS cl D tys p s m args meth c cc nL own) {x y : Int32} {off : Int} {tgt : Nat} (hdg : decode cc pc = .ok (.if_icmp .gt off, 3)) (ht : (pc : Int) + off = (tgt : Int)) (kt : y < x → V cl p l e R s m args below meth c nL D A cells slots (Q) (X) (tgt) (L) (st)) (kf : ¬ y < x → V cl p l e R s m args below meth c nL D A cells slots (Q) (X) (pc + 3) (L) (st)) : V cl p l e R s m args below meth c nL D A cells slots (Q) (X) (pc) (L) (.int y :: .int x :: st) := fun H locs ls hP hD hS hL => lv_icmp_gt hc.1 hc.2.1 hdg ht (fun h => kt h H locs ls hP hD hS hL) (fun h => kf h H locs ls hP hD hS hL)
theorem V_icmp_le (hc : Cx TS NS cl D tys p s m args meth c cc nL own) {x y : Int32} {off : Int} {tgt : Nat} (hdg : decode cc pc = .ok (.if_icmp .le off, 3)) (ht : (pc : Int) + off = (tgt : Int)) (kt : x ≤ y → V cl p l e R s m args below meth c nL D A cells slots (Q) (X) (tgt) (L) (st)) (kf : ¬ x ≤ y → V cl p l e R s m args below meth c nL D A cells slots (Q) (X) (pc + 3) (L) (st)) : V cl p l e R s m args below meth c nL D A cells slots (Q) (X) (pc) (L) (.int y :: .int x :: st) := fun H locs ls hP hD hS hL => lv_icmp_le hc.1 hc.2.1 hdg ht (fun h => kt h H locs ls hP hD hS hL) (fun h => kf h H locs ls hP hD hS hL)
theorem V_goto (hc : Cx TS NS cl D tys p s m args meth c cc nL own) {off : Int} {tgt : Nat} (hdg : decode cc pc = .ok (.goto off, 3)) (ht : (pc : Int) + off = (tgt : Int)) (k : V cl p l e R s m args below meth c nL D A cells slots (Q) (X) (tgt) (L) (st)) : V cl p l e R s m args below meth c nL D A cells slots (Q) (X) (pc) (L) (st) := fun H locs ls hP hD hS hL => lv_goto hc.1 hc.2.1 hdg ht (k H locs ls hP hD hS hL)
theorem V_iald (hc : Cx TS NS cl D tys p s m args meth c cc nL own) (q0 t0 : Nat) {a : Nat} {cA : ClassId} {n : Nat} {f : Nat → Int32} (ha : X[q0]? = some (a, .inl (cA, n, .inl f))) (ht : tys[t0]? = some (cA, .int)) {i : Int32} {x : Int32} (hin : vp_in i n) (hx : f i.toNatClampNeg = x) (hdg : decode cc pc = .ok (.iaload, 1)) (k : V cl p l e R s m args below meth c nL D A cells slots (Q) (X) (pc + 1) (L) (.int x :: st)) : V cl p l e R s m args below meth c nL D A cells slots (Q) (X) (pc) (L) (.int i :: .ref a :: st) := fun H locs ls hP hD hS hL => va_iald hc.1 hc.2.1 hc.2.2.2.2.2.2.1 hP q0 t0 ha ht hin hdg (hx ▸ k H locs ls hP hD hS hL)
theorem V_lald (hc : Cx TS NS cl D tys p s m args meth c cc nL own) (q0 t0 : Nat) {a : Nat} {cA : ClassId} {n : Nat} {f : Nat → Int64} (ha : X[q0]? = some (a, .inl (cA, n, .inr (.inl f)))) (ht : tys[t0]? = some (cA, .long)) {i : Int32} {x : Int64} (hin : vp_in i n) (hx : f i.toNatClampNeg = x) (hdg : decode cc pc = .ok (.laload, 1)) (k : V cl p l e R s m args below meth c nL D A cells slots (Q) (X) (pc + 1) (L) (.long x :: st)) : V cl p l e R s m args below meth c nL D A cells slots (Q) (X) (pc) (L) (.int i :: .ref a :: st) := fun H locs ls hP hD hS hL => va_lald hc.1 hc.2.1 hc.2.2.2.2.2.2.1 hP q0 t0 ha ht hin hdg (hx ▸ k H locs ls hP hD hS hL)
theorem V_zald (hc : Cx TS NS cl D tys p s m args meth c cc nL own) (q0 t0 : Nat) {a : Nat} {cA : ClassId} {n : Nat} {f : Nat → Int32} (ha : X[q0]? = some (a, .inl (cA, n, .inl f))) (ht : tys[t0]? = some (cA, .boolean)) {i : Int32} {x : Int32} (hin : vp_in i n) (hx : f i.toNatClampNeg = x) (hdg : decode cc pc = .ok (.baload, 1)) (k : V cl p l e R s m args below meth c nL D A cells slots (Q) (X) (pc + 1) (L) (.int x :: st)) : V cl p l e R s m args below meth c nL D A cells slots (Q) (X) (pc) (L) (.int i :: .ref a :: st) := fun H locs ls hP hD hS hL => va_zald hc.1 hc.2.1 hc.2.2.2.2.2.2.1 hP q0 t0 ha ht hin hdg (hx ▸ k H locs ls hP hD hS hL)
theorem V_iast (hc : Cx TS NS cl D tys p s m args meth c cc nL own) (q0 t0 : Nat) {a : Nat} {cA : ClassId} {n : Nat} {f : Nat → Int32} (ha : X[q0]? = some (a, .inl (cA, n, .inl f))) (ht : tys[t0]? = some (cA, .int)) {i : Int32} {x : Int32} {X' : va_W} (hin : vp_in i n) (hset : X.set q0 (a, .inl (cA, n, .inl (upd f i.toNatClampNeg x))) = X') (hdg : decode cc pc = .ok (.iastore, 1)) (k : V cl p l e R s m args below meth c nL D A cells slots (Q) (X') (pc + 1) (L) (st)) : V cl p l e R s m args below meth c nL D A cells slots (Q) (X) (pc) (L) (.int x :: .int i :: .ref a :: st) := by
  subst hset
  exact fun H locs ls hP hD hS hL => va_iast hc.1 hc.2.1 hc.2.2.2.2.2.2.1 hP hD hS q0 t0 ha ht hin hdg (fun H1 locs1 hP hD hS => k H1 locs1 ls hP hD hS hL)
theorem V_last (hc : Cx TS NS cl D tys p s m args meth c cc nL own) (q0 t0 : Nat) {a : Nat} {cA : ClassId} {n : Nat} {f : Nat → Int64} (ha : X[q0]? = some (a, .inl (cA, n, .inr (.inl f)))) (ht : tys[t0]? = some (cA, .long)) {i : Int32} {x : Int64} {X' : va_W} (hin : vp_in i n) (hset : X.set q0 (a, .inl (cA, n, .inr (.inl (vp_updL f i.toNatClampNeg x)))) = X') (hdg : decode cc pc = .ok (.lastore, 1)) (k : V cl p l e R s m args below meth c nL D A cells slots (Q) (X') (pc + 1) (L) (st)) : V cl p l e R s m args below meth c nL D A cells slots (Q) (X) (pc) (L) (.long x :: .int i :: .ref a :: st) := by
  subst hset
  exact fun H locs ls hP hD hS hL => va_last hc.1 hc.2.1 hc.2.2.2.2.2.2.1 hP hD hS q0 t0 ha ht hin hdg (fun H1 locs1 hP hD hS => k H1 locs1 ls hP hD hS hL)
theorem V_zast (hc : Cx TS NS cl D tys p s m args meth c cc nL own) (q0 t0 : Nat) {a : Nat} {cA : ClassId} {n : Nat} {f : Nat → Int32} (ha : X[q0]? = some (a, .inl (cA, n, .inl f))) (ht : tys[t0]? = some (cA, .boolean)) {i : Int32} {x : Int32} {X' : va_W} (hin : vp_in i n) (hset : X.set q0 (a, .inl (cA, n, .inl (upd f i.toNatClampNeg (vp_nar .boolean x)))) = X') (hdg : decode cc pc = .ok (.bastore, 1)) (k : V cl p l e R s m args below meth c nL D A cells slots (Q) (X') (pc + 1) (L) (st)) : V cl p l e R s m args below meth c nL D A cells slots (Q) (X) (pc) (L) (.int x :: .int i :: .ref a :: st) := by
  subst hset
  exact fun H locs ls hP hD hS hL => va_zast hc.1 hc.2.1 hc.2.2.2.2.2.2.1 hP hD hS q0 t0 ha ht hin hdg (fun H1 locs1 hP hD hS => k H1 locs1 ls hP hD hS hL)
theorem V_alen (hc : Cx TS NS cl D tys p s m args meth c cc nL own) (q0 t0 : Nat) {a : Nat} {cA : ClassId} {x : vp_A} (ha : X[q0]? = some (a, .inl (cA, x))) {ty : FieldType} (ht : tys[t0]? = some (cA, ty)) {v : Int32} (hv : Int32.ofNat x.1 = v) (hdg : decode cc pc = .ok (.arraylength, 1)) (k : V cl p l e R s m args below meth c nL D A cells slots (Q) (X) (pc + 1) (L) (.int v :: st)) : V cl p l e R s m args below meth c nL D A cells slots (Q) (X) (pc) (L) (.ref a :: st) := fun H locs ls hP hD hS hL => va_alen hc.1 hc.2.1 hc.2.2.2.2.2.2.1 hP q0 t0 ha ht hv hdg (k H locs ls hP hD hS hL)
theorem V_get (hc : Cx TS NS cl D tys p s m args meth c cc nL own) {C : String} {T : u_T} {N ci index : Nat} (hin : ∀ w ∈ u_ws C T N, w ∈ TS) (q0 : Nat) {a : Nat} {fs : List Value} (he : X[q0]? = some (a, .inr (ci, fs))) (hcl : cl[ci]? = some (C, T, N)) (k : Nat) (hk : k < N) (hlink : Cond.fieldLink own index (T k).1 (T k).2.1 (T k).2.2.1 ∈ TS) {v : Value} (hv : fs[k]? = some v) (hdg : decode cc pc = .ok (.getfield index, 3)) (kk : V cl p l e R s m args below meth c nL D A cells slots (Q) (X) (pc + 3) (L) (v :: st)) : V cl p l e R s m args below meth c nL D A cells slots (Q) (X) (pc) (L) (.ref a :: st) := fun H locs ls hP hD hS hL => va_get hc.1 hc.2.1 hc.2.2.2.2.1 hin hc.2.2.2.1 hc.2.2.2.2.2.2.1 hP q0 he hcl k hk (hc.2.2.2.2.1 _ hlink) (fun _ h => h) hv hdg (kk H locs ls hP hD hS hL)
theorem V_getN (hc : Cx TS NS cl D tys p s m args meth c cc nL own) {C : String} {T : u_T} {N ci index : Nat} (hin : ∀ w ∈ u_ws C T N, w ∈ TS) (q0 : Nat) {a : Nat} {fs : List Value} (he : X[q0]? = some (a, .inr (ci, fs))) (hcl : cl[ci]? = some (C, T, N)) (k : Nat) (hk : k < N) {host : String} (hlink : Cond.fieldLinkNest own index (T k).1 (T k).2.1 (T k).2.2.1 host ∈ NS) {v : Value} (hv : fs[k]? = some v) (hdg : decode cc pc = .ok (.getfield index, 3)) (kk : V cl p l e R s m args below meth c nL D A cells slots (Q) (X) (pc + 3) (L) (v :: st)) : V cl p l e R s m args below meth c nL D A cells slots (Q) (X) (pc) (L) (.ref a :: st) := fun H locs ls hP hD hS hL => va_getN hc.1 hc.2.1 hc.2.2.2.2.1 hin hc.2.2.2.1 hc.2.2.2.2.2.2.1 hP q0 he hcl k hk (va_Nw.use rfl (hc.2.2.2.2.2.1 _ hlink)) (fun _ h => h) hv hdg (kk H locs ls hP hD hS hL)
theorem V_put (hc : Cx TS NS cl D tys p s m args meth c cc nL own) {C : String} {T : u_T} {N ci index : Nat} (hin : ∀ w ∈ u_ws C T N, w ∈ TS) (q0 : Nat) {a : Nat} {fs : List Value} (he : X[q0]? = some (a, .inr (ci, fs))) (hcl : cl[ci]? = some (C, T, N)) (k : Nat) (hk : k < N) (ty0 : Nat → FieldType) (hty : ∀ k, k < N → parseFieldDescriptor (T k).2.2.1 = some (ty0 k)) (hnm : ∀ a, a < N → ∀ b, b < N → a ≠ b → (T a).2.1 ≠ (T b).2.1) (hlink : Cond.fieldLink own index (T k).1 (T k).2.1 (T k).2.2.1 ∈ TS) (hfin : (T k).2.2.2 = false) {ty : FieldType} {v : Value} (hd : parseFieldDescriptor (T k).2.2.1 = some ty) (hn : narrow ty v = v) (hfit : fits ty v = true) (hl : k < fs.length) {X' : va_W} (hset : X.set q0 (a, .inr (ci, fs.set k v)) = X') (hdg : decode cc pc = .ok (.putfield index, 3)) (kk : V cl p l e R s m args below meth c nL D A cells slots (Q) (X') (pc + 3) (L) (st)) : V cl p l e R s m args below meth c nL D A cells slots (Q) (X) (pc) (L) (v :: .ref a :: st) := by
  subst hset
  exact fun H locs ls hP hD hS hL => va_put hc.1 hc.2.1 hc.2.2.2.2.1 hin ty0 hty hnm hc.2.2.2.1 hc.2.2.2.2.2.2.1 hP hD hS q0 he hcl k hk (hc.2.2.2.2.1 _ hlink) (fun _ h => h) hfin hd hn hfit hl hdg (fun H1 locs1 hP hD hS => kk H1 locs1 ls hP hD hS hL)
theorem V_putN (hc : Cx TS NS cl D tys p s m args meth c cc nL own) {C : String} {T : u_T} {N ci index : Nat} (hin : ∀ w ∈ u_ws C T N, w ∈ TS) (q0 : Nat) {a : Nat} {fs : List Value} (he : X[q0]? = some (a, .inr (ci, fs))) (hcl : cl[ci]? = some (C, T, N)) (k : Nat) (hk : k < N) (ty0 : Nat → FieldType) (hty : ∀ k, k < N → parseFieldDescriptor (T k).2.2.1 = some (ty0 k)) (hnm : ∀ a, a < N → ∀ b, b < N → a ≠ b → (T a).2.1 ≠ (T b).2.1) {host : String} (hlink : Cond.fieldLinkNest own index (T k).1 (T k).2.1 (T k).2.2.1 host ∈ NS) (hfin : (T k).2.2.2 = false) {ty : FieldType} {v : Value} (hd : parseFieldDescriptor (T k).2.2.1 = some ty) (hn : narrow ty v = v) (hfit : fits ty v = true) (hl : k < fs.length) {X' : va_W} (hset : X.set q0 (a, .inr (ci, fs.set k v)) = X') (hdg : decode cc pc = .ok (.putfield index, 3)) (kk : V cl p l e R s m args below meth c nL D A cells slots (Q) (X') (pc + 3) (L) (st)) : V cl p l e R s m args below meth c nL D A cells slots (Q) (X) (pc) (L) (v :: .ref a :: st) := by
  subst hset
  exact fun H locs ls hP hD hS hL => va_putN hc.1 hc.2.1 hc.2.2.2.2.1 hin ty0 hty hnm hc.2.2.2.1 hc.2.2.2.2.2.2.1 hP hD hS q0 he hcl k hk (va_Nw.use rfl (hc.2.2.2.2.2.1 _ hlink)) (fun _ h => h) hfin hd hn hfit hl hdg (fun H1 locs1 hP hD hS => kk H1 locs1 ls hP hD hS hL)
theorem V_putF (hc : Cx TS NS cl D tys p s m args meth c cc nL own) {C : String} {T : u_T} {N ci index : Nat} (hin : ∀ w ∈ u_ws C T N, w ∈ TS) (q0 : Nat) {a : Nat} {fs : List Value} (he : X[q0]? = some (a, .inr (ci, fs))) (hcl : cl[ci]? = some (C, T, N)) (k : Nat) (hk : k < N) (ty0 : Nat → FieldType) (hty : ∀ k, k < N → parseFieldDescriptor (T k).2.2.1 = some (ty0 k)) (hnm : ∀ a, a < N → ∀ b, b < N → a ≠ b → (T a).2.1 ≠ (T b).2.1) (hlink : Cond.fieldLink own index (T k).1 (T k).2.1 (T k).2.2.1 ∈ TS) (hfin : (T k).2.2.2 = true) (hin2 : meth.name = "<init>") (hdecl : (T k).1 = own) {ty : FieldType} {v : Value} (hd : parseFieldDescriptor (T k).2.2.1 = some ty) (hn : narrow ty v = v) (hfit : fits ty v = true) (hl : k < fs.length) {X' : va_W} (hset : X.set q0 (a, .inr (ci, fs.set k v)) = X') (hdg : decode cc pc = .ok (.putfield index, 3)) (kk : V cl p l e R s m args below meth c nL D A cells slots (Q) (X') (pc + 3) (L) (st)) : V cl p l e R s m args below meth c nL D A cells slots (Q) (X) (pc) (L) (v :: .ref a :: st) := by
  subst hset
  exact fun H locs ls hP hD hS hL => va_putF hc.1 hc.2.1 hc.2.2.2.2.1 hin ty0 hty hnm hc.2.2.2.1 hc.2.2.2.2.2.2.1 hP hD hS q0 he hcl k hk (hc.2.2.2.2.1 _ hlink) (fun _ h => h) hfin hin2 hdecl hd hn hfit hl hdg (fun H1 locs1 hP hD hS => kk H1 locs1 ls hP hD hS hL)
theorem V_mmax (hc : Cx TS NS cl D tys p s m args meth c cc nL own) {index : Nat} {x y v : Int32} (hlink : Cond.methodLink own index Lib.Math.max.name ∈ TS) (hstat : Cond.static Lib.Math.max.name ∈ TS) (hini : Cond.initialized "java/lang/Math" ∈ TS) (hcode : Cond.code Lib.Math.max.name Lib.Math.max.code 2 (some .int) ∈ TS) (hfr : 1 ≤ R.frames) (hlo : (st.map fun v => v.category).sum + 13 ≤ R.locals) (hce : cells ≤ R.cells) (hsl : slots ≤ R.slots) (hv : (if x < y then y else x) = v) (hdg : decode cc pc = .ok (.invokestatic index, 3)) (k : V cl p l e R s m args below meth c nL D A cells slots (Q) (X) (pc + 3) (L) (.int v :: st)) : V cl p l e R s m args below meth c nL D A cells slots (Q) (X) (pc) (L) (.int y :: .int x :: st) := fun H locs ls hP hD hS hL => va_mmax hc.1 hc.2.1 (hc.2.2.1.trans hL.1.symm) hc.2.2.2.1 (hc.2.2.2.2.1 _ hlink) (hc.2.2.2.2.1 _ hstat) (hc.2.2.2.2.1 _ hini) (hc.2.2.2.2.1 _ hcode) hfr hlo hce hsl hdg (hv ▸ k H locs ls hP hD hS hL)
theorem V_mmin (hc : Cx TS NS cl D tys p s m args meth c cc nL own) {index : Nat} {x y v : Int32} (hlink : Cond.methodLink own index Lib.Math.min.name ∈ TS) (hstat : Cond.static Lib.Math.min.name ∈ TS) (hini : Cond.initialized "java/lang/Math" ∈ TS) (hcode : Cond.code Lib.Math.min.name Lib.Math.min.code 2 (some .int) ∈ TS) (hfr : 1 ≤ R.frames) (hlo : (st.map fun v => v.category).sum + 13 ≤ R.locals) (hce : cells ≤ R.cells) (hsl : slots ≤ R.slots) (hv : (if y < x then y else x) = v) (hdg : decode cc pc = .ok (.invokestatic index, 3)) (k : V cl p l e R s m args below meth c nL D A cells slots (Q) (X) (pc + 3) (L) (.int v :: st)) : V cl p l e R s m args below meth c nL D A cells slots (Q) (X) (pc) (L) (.int y :: .int x :: st) := fun H locs ls hP hD hS hL => va_mmin hc.1 hc.2.1 (hc.2.2.1.trans hL.1.symm) hc.2.2.2.1 (hc.2.2.2.2.1 _ hlink) (hc.2.2.2.2.1 _ hstat) (hc.2.2.2.2.1 _ hini) (hc.2.2.2.2.1 _ hcode) hfr hlo hce hsl hdg (hv ▸ k H locs ls hP hD hS hL)
theorem V_copyi (hc : Cx TS NS cl D tys p s m args meth c cc nL own) {index : Nat} (hlink : Cond.methodLink own index arraycopyName ∈ TS) (hnat : Cond.native arraycopyName ∈ TS) (hstat : Cond.static arraycopyName ∈ TS) (hini : Cond.initialized "java/lang/System" ∈ TS) (q0 t0 : Nat) {a : Nat} {cA : ClassId} {n0 : Nat} {f : Nat → Int32} (ha : X[q0]? = some (a, .inl (cA, n0, .inl f))) (ht : tys[t0]? = some (cA, .int)) {sp dp n : Int32} (h1 : ¬ sp < 0) (h2 : ¬ dp < 0) (h3 : ¬ n < 0) (h4 : sp.toNatClampNeg + n.toNatClampNeg ≤ n0) (h5 : dp.toNatClampNeg + n.toNatClampNeg ≤ n0) (hfr : 1 ≤ R.frames) (hlo : (st.map fun v => v.category).sum + (nativeFrameWords "java/lang/System" "arraycopy" 5 + 11) ≤ R.locals) {X' : va_W} (hset : X.set q0 (a, .inl (cA, n0, .inl (va_cpy f f sp.toNatClampNeg dp.toNatClampNeg n.toNatClampNeg))) = X') (hdg : decode cc pc = .ok (.invokestatic index, 3)) (k : V cl p l e R s m args below meth c nL D A cells slots (Q) (X') (pc + 3) (L) (st)) : V cl p l e R s m args below meth c nL D A cells slots (Q) (X) (pc) (L) (.int n :: .int dp :: .ref a :: .int sp :: .ref a :: st) := by
  subst hset
  exact fun H locs ls hP hD hS hL => va_copyi hc.1 hc.2.1 (hc.2.2.1.trans hL.1.symm) hc.2.2.2.1 (hc.2.2.2.2.1 _ hlink) (hc.2.2.2.2.1 _ hnat) (hc.2.2.2.2.1 _ hstat) (hc.2.2.2.2.1 _ hini) hc.2.2.2.2.2.2.1 hP hD hS q0 q0 t0 t0 ha ha ht ht rfl h1 h2 h3 h4 h5 (fun _ _ => rfl) hfr hlo hdg (fun H1 locs1 hP hD hS => k H1 locs1 ls hP hD hS hL)
variable {n : Nat} {a : Nat → Nat} {WF : St → va_W} {z : St}
theorem V_iret (hc : Cx TS NS cl D tys p s m args meth c cc nL own) (hN : ∀ w ∈ NS, isNest w) (hr : meth.sig.returnType = some .int) {r : Int32} {Qr : Int32 → St → Prop} (hQ : Qr r z) (hdg : decode cc pc = .ok (.ireturn, 1)) : V cl p l e R s m args below meth c nL D (AX n a s.heap.size) cells slots (MQ below (Qg NS cl D tys WF (AX n a s.heap.size) mkI Qr) args s cells slots (AX n a s.heap.size)) (WF z) pc L ([.int r]) := fun H locs ls hP hD hS hL => W.iret hc.1 hc.2.1 hr (fun t ht hW => ⟨⟨r, z, rfl, hQ, by rw [ht]; exact hP, va_K.moved hW.alike hc.2.2.2.2.2.2.1, hD, nw_warm hN hW hc.2.2.2.2.2.1⟩, hS.F ht⟩) hS.2.2 hdg hc.2.2.2.2.2.2.2
theorem V_lret (hc : Cx TS NS cl D tys p s m args meth c cc nL own) (hN : ∀ w ∈ NS, isNest w) (hr : meth.sig.returnType = some .long) {r : Int64} {Qr : Int64 → St → Prop} (hQ : Qr r z) (hdg : decode cc pc = .ok (.lreturn, 1)) : V cl p l e R s m args below meth c nL D (AX n a s.heap.size) cells slots (MQ below (Qg NS cl D tys WF (AX n a s.heap.size) mkL Qr) args s cells slots (AX n a s.heap.size)) (WF z) pc L ([.long r]) := fun H locs ls hP hD hS hL => W.lret hc.1 hc.2.1 hr (fun t ht hW => ⟨⟨r, z, rfl, hQ, by rw [ht]; exact hP, va_K.moved hW.alike hc.2.2.2.2.2.2.1, hD, nw_warm hN hW hc.2.2.2.2.2.1⟩, hS.F ht⟩) hS.2.2 hdg hc.2.2.2.2.2.2.2
theorem V_zret (hc : Cx TS NS cl D tys p s m args meth c cc nL own) (hN : ∀ w ∈ NS, isNest w) (hr : meth.sig.returnType = some .boolean) {r : Int32} {Qr : Int32 → St → Prop} (hn : narrow .boolean (.int r) = .int r) (hQ : Qr r z) (hdg : decode cc pc = .ok (.ireturn, 1)) : V cl p l e R s m args below meth c nL D (AX n a s.heap.size) cells slots (MQ below (Qg NS cl D tys WF (AX n a s.heap.size) mkI Qr) args s cells slots (AX n a s.heap.size)) (WF z) pc L ([.int r]) := fun H locs ls hP hD hS hL => W.zret hc.1 hc.2.1 hr hn (fun t ht hW => ⟨⟨r, z, rfl, hQ, by rw [ht]; exact hP, va_K.moved hW.alike hc.2.2.2.2.2.2.1, hD, nw_warm hN hW hc.2.2.2.2.2.1⟩, hS.F ht⟩) hS.2.2 hdg hc.2.2.2.2.2.2.2
theorem V_vret (hc : Cx TS NS cl D tys p s m args meth c cc nL own) (hN : ∀ w ∈ NS, isNest w) (hr : meth.sig.returnType = none) {Qr : Unit → St → Prop} (hQ : Qr () z) (hdg : decode cc pc = .ok (.return_, 1)) : V cl p l e R s m args below meth c nL D (AX n a s.heap.size) cells slots (MQ below (Qg NS cl D tys WF (AX n a s.heap.size) mkV Qr) args s cells slots (AX n a s.heap.size)) (WF z) pc L ([]) := fun H locs ls hP hD hS hL => W.vret hc.1 hc.2.1 hr (fun t ht hW => ⟨⟨(), z, rfl, hQ, by rw [ht]; exact hP, va_K.moved hW.alike hc.2.2.2.2.2.2.1, hD, nw_warm hN hW hc.2.2.2.2.2.1⟩, hS.F ht⟩) hS.2.2 hdg hc.2.2.2.2.2.2.2
theorem Ct.of {ρ : Type} {mk : ρ → Option Value} {y : MethodName} {rm : Room} {av : List Value} {ret : Option FieldType} {wp : (ρ → St → Prop) → Prop} (hy : plainName y.cls = true) (hlen : (lg_sl av).length ≤ nL) (hAd : Ad n a WF)
    (body : ∀ (Qr : ρ → St → Prop) (p : Program) (e : Env) (s : State) (m : MethodId) (args : Array Value) (below : List Frame) (meth : Method) (c : Code), Cx TS NS cl D tys p s m args meth c cc nL y.cls → meth.sig.returnType = ret → wp Qr → V cl p l e rm s m args below meth c nL D (AX n a s.heap.size) 0 0 (MQ below (Qg NS cl D tys WF (AX n a s.heap.size) mk Qr) args s 0 0 (AX n a s.heap.size)) (WF z) 0 (lv_args 0 av) []) : Ct l NS cl D tys n a WF mk y (.code y cc nL ret :: TS) rm av z wp := by
  intro sz Qr
  refine Met.ofW (cc := cc) (maxL := nL) (ret := ret) hy rfl ?_
  intro p e s m args below meth c s₁ B hml hv
  obtain ⟨rfl, hsz, ⟨hP, hK, hD, hN⟩, hw⟩ := hv
  subst hsz
  have hts := atoms_spec (ws := .code y cc nL ret :: TS) B.pre
  rw [lg_entry_eq]
  exact body Qr p e s m _ below meth c ⟨B.exec, B.bytes, hml, findClass_of_methodNamed B.named, fun w hw => hts w (List.mem_cons_of_mem _ hw), hN, hK, B.notSynchronized⟩ B.returns hw _ _ _ hP (hD.weaken (fun k q hk _ => Or.inl (hAd z k q hk))) va_S.rf (lv_entry av hlen)
theorem fb_Ct {av : List Value} {sz : Nat} {B : Prop} (hN : ∀ w ∈ NS, isNest w) : FrameBlind (va_Pc av (fun U => U.heap.size = sz ∧ Wd NS cl D tys WF (fun _ => True) z U ∧ B)) := by
  intro a U g mk q
  obtain ⟨q0, q1, ⟨qP, qK, qD, qN⟩, qB⟩ := q
  exact ⟨q0, q1, ⟨qP, va_K.moved (u := U) (U := U.calling g mk a) (Vm.Alike.refl U.vm) qK, qD, nw_same hN (rfl : U.vm = (U.calling g mk a).vm) qN⟩, qB⟩
theorem pre_Ct {H : Heap} {locs : List Loc} {As : List Value} {B : Prop} (hc : Cx TS NS cl D tys p s m args meth c cc nL own) (hN : ∀ w ∈ NS, isNest w) (hP : va_P D cl (WF z) H) (hD : va_D A (WF z)) (hB : B) : ∀ U : State, U.heap = H → s.WarmedH U.vm → va_Pc As (fun U => U.heap.size = H.size ∧ Wd NS cl D tys WF (fun _ => True) z U ∧ B) As.toArray U :=
  fun U hU hW => ⟨rfl, by rw [hU], ⟨by rw [hU]; exact hP, va_K.moved hW.alike hc.2.2.2.2.2.2.1, hD.weaken (fun _ _ _ _ => trivial), nw_warm hN hW hc.2.2.2.2.2.1⟩, hB⟩
/-- behind a call over the whole world -/
theorem V_back {ρ : Type} {mk : ρ → Option Value} {H : Heap} {locs : List Loc} {ls : Array Slot} {st0 rest : List Value} {Qr : ρ → St → Prop} {ar : Array Value} (hr : va_Run p l e R s m args below meth c H locs cells slots 0 0 (F0 m pc ls st0) rest (Qg NS cl D tys WF (AX n a H.size) mk Qr ar) (AX n a H.size)) (hA : ∀ q, AX n a s.heap.size q → A q) (hS : va_S A s.heap H locs) (hL : lv_has ls nL L)
    (kk : ∀ (r : ρ) (u : St), Qr r u → V cl p l e R s m args below meth c nL D A cells slots Q (WF u) (pc + 3) L ((mk r).toList ++ rest)) : W p l e R s m args below meth c H locs cells slots Q (F0 m pc ls st0) := by
  intro T hT X
  obtain ⟨v, st₀, t, T', L', h0, X', hL', e1, e2, ⟨⟨r, u, hv, hq, ⟨hP1, hK1, hD1, hN1⟩⟩, hz, hk⟩, st⟩ := hr T hT X
  cases hv
  rw [h0] at hz hk
  have hup : ∀ q, AX n a H.size q → A q := fun q h => hA q (AX.up hS.1 h)
  obtain ⟨t2, a1, b1⟩ := kk r u hq T'.heap (locs ++ L') ls (by rw [e1]; exact hP1) (hD1.weaken (fun _ _ _ h => hup _ h))
    ⟨Nat.le_trans hS.1 (by rw [e1]; exact hz), fun q h1 h2 => by rw [e1, hk q (Nat.lt_of_lt_of_le h1 hS.1) (fun z => h2 (hup q z))]; exact hS.2.1 q h1 h2, fun q hq => by
      rcases List.mem_append.mp hq with h | h
      · exact hS.2.2 q h
      · exact hup _ (hL' q h)⟩ hL T' rfl X'
  exact ⟨t2, st t2 a1, b1⟩
/-- behind a static call that has no world: everything stays -/
theorem V_backS {ρ : Type} {mk : ρ → Option Value} {H : Heap} {locs : List Loc} {ls : Array Slot} {st0 rest : List Value} {Qr : ρ → St → Prop} {ar : Array Value} (hr : va_Run p l e R s m args below meth c H locs cells slots 0 0 (F0 m pc ls st0) rest (Qg NS cl D tys (fun _ => []) (AX 0 a H.size) mk Qr ar) (AX 0 a H.size)) (hA : ∀ q, s.heap.size ≤ q → A q) (hP : va_P D cl X H) (hD : va_D A X) (hS : va_S A s.heap H locs) (hL : lv_has ls nL L)
    (kk : ∀ (r : ρ) (u : St), Qr r u → V cl p l e R s m args below meth c nL D A cells slots Q X (pc + 3) L ((mk r).toList ++ rest)) : W p l e R s m args below meth c H locs cells slots Q (F0 m pc ls st0) := by
  intro T hT X1
  obtain ⟨v, st₀, t, T', L', h0, X', hL', e1, e2, ⟨⟨r, u, hv, hq, -⟩, hz, hk⟩, st⟩ := hr T hT X1
  cases hv
  rw [h0] at hz hk
  have hn : ∀ q, q < H.size → ¬ AX 0 a H.size q := fun q h h2 => by
    rcases h2 with ⟨k, hk, -⟩ | h2
    · omega
    · omega
  obtain ⟨t2, a1, b1⟩ := kk r u hq T'.heap (locs ++ L') ls (hP.kept (fun k q hq => by rw [e1]; exact hk _ (hP k q hq).lt (hn _ (hP k q hq).lt))) hD
    ⟨Nat.le_trans hS.1 (by rw [e1]; exact hz), fun q h1 h2 => by rw [e1, hk q (Nat.lt_of_lt_of_le h1 hS.1) (hn q (Nat.lt_of_lt_of_le h1 hS.1))]; exact hS.2.1 q h1 h2, fun q hq => by
      rcases List.mem_append.mp hq with h | h
      · exact hS.2.2 q h
      · rcases hL' q h with ⟨k, hk, -⟩ | h2
        · omega
        · exact hA _ (Nat.le_trans hS.1 h2)⟩ hL T' rfl X'
  exact ⟨t2, st t2 a1, b1⟩
theorem good_of {w0 : Cond} (hg : ∀ w ∈ TS, (w.onTables && w.keeps) = true ∨ ∃ ty, w = .arrayClass ty) (h0 : w0 ∈ TS) : GoodIn TS (w0 :: TS) := by
  intro w hw
  rcases List.mem_cons.mp hw with rfl | hw
  · exact ⟨h0, hg _ h0⟩
  · exact ⟨hw, hg _ hw⟩
theorem V_callVi (hc : Cx TS NS cl D tys p s m args meth c cc nL own) (hg : ∀ w ∈ TS, (w.onTables && w.keeps) = true ∨ ∃ ty, w = .arrayClass ty) (hN : ∀ w ∈ NS, isNest w) {y : MethodName} {bytes : ByteArray} {maxL index : Nat} {ret : Option FieldType} {fr lo : Nat} {b : Nat} {As : List Value} {wp : (Int32 → St → Prop) → Prop} {st0 : List Value} (hA : ∀ q, AX n a s.heap.size q → A q) (hM : Ct l NS cl D tys n a WF mkI y (.code y bytes maxL ret :: TS) { frames := fr, cells := 0, slots := 0, locals := lo } (.ref b :: As) z wp) (hlink : Cond.methodLink own index y ∈ TS) (hini : Cond.initialized y.cls ∈ TS) (hcode : Cond.code y bytes maxL ret ∈ TS) (hinst : Cond.instanceMethod y ∈ TS) (hsel : Cond.selects y.cls y y ∈ TS) {ci : Nat} {fs : List Value} (q0 : Nat) (he : (WF z)[q0]? = some (b, .inr (ci, fs))) {T : u_T} {N : Nat} (hcl : cl[ci]? = some (y.cls, T, N)) (hd : y.cls ≠ "java/lang/invoke/MethodHandle" ∧ y.cls ≠ "java/lang/invoke/VarHandle" ∧ (parseMethodDescriptor y.desc).map (fun d => d.parameters.length) = some As.length) (hR : fr + 1 ≤ R.frames ∧ 8 + (maxL + 11) + lo ≤ R.locals) (hce : cells ≤ R.cells) (hsl : slots ≤ R.slots) (hst : st0 = As.reverse ++ .ref b :: st) (hroom : (st.map fun v => v.category).sum ≤ 8) (hdg : decode cc pc = .ok (.invokevirtual index, 3)) {Qr : Int32 → St → Prop} (hw : wp Qr) (kk : ∀ (r : Int32) (u : St), Qr r u → V cl p l e R s m args below meth c nL D A cells slots (Q) (WF u) (pc + 3) (L) (.int r :: st)) : V cl p l e R s m args below meth c nL D A cells slots (Q) (WF z) (pc) (L) (st0) := by
  subst hst
  intro H locs ls hP hD hS hL
  exact V_back (va_runV (C := y.cls) (g := F0 m pc ls (As.reverse ++ .ref b :: st)) (rest := st) (As := As) ⟨hc.1, hc.2.1, hc.2.2.1, hc.2.2.2.1, hc.2.2.2.2.1⟩ (hM H.size Qr) ⟨callB_of As.length hc.2.2.2.2.1 (good_of hg hcode) rfl rfl rfl (hc.2.2.2.2.1 _ hini) (hc.2.2.2.2.1 _ hlink) hd hR, hc.2.2.2.2.1 _ hinst, hc.2.2.2.2.1 _ hsel⟩ ⟨fb_Ct hN, va_recv hc.2.2.2.2.2.2.1 hP hcl he, pre_Ct (locs := locs) hc hN hP hD hw⟩ rfl rfl hL.1 rfl (lv_room hroom) hdg ⟨hce, hsl⟩) hA hS hL kk
theorem V_callVl (hc : Cx TS NS cl D tys p s m args meth c cc nL own) (hg : ∀ w ∈ TS, (w.onTables && w.keeps) = true ∨ ∃ ty, w = .arrayClass ty) (hN : ∀ w ∈ NS, isNest w) {y : MethodName} {bytes : ByteArray} {maxL index : Nat} {ret : Option FieldType} {fr lo : Nat} {b : Nat} {As : List Value} {wp : (Int64 → St → Prop) → Prop} {st0 : List Value} (hA : ∀ q, AX n a s.heap.size q → A q) (hM : Ct l NS cl D tys n a WF mkL y (.code y bytes maxL ret :: TS) { frames := fr, cells := 0, slots := 0, locals := lo } (.ref b :: As) z wp) (hlink : Cond.methodLink own index y ∈ TS) (hini : Cond.initialized y.cls ∈ TS) (hcode : Cond.code y bytes maxL ret ∈ TS) (hinst : Cond.instanceMethod y ∈ TS) (hsel : Cond.selects y.cls y y ∈ TS) {ci : Nat} {fs : List Value} (q0 : Nat) (he : (WF z)[q0]? = some (b, .inr (ci, fs))) {T : u_T} {N : Nat} (hcl : cl[ci]? = some (y.cls, T, N)) (hd : y.cls ≠ "java/lang/invoke/MethodHandle" ∧ y.cls ≠ "java/lang/invoke/VarHandle" ∧ (parseMethodDescriptor y.desc).map (fun d => d.parameters.length) = some As.length) (hR : fr + 1 ≤ R.frames ∧ 8 + (maxL + 11) + lo ≤ R.locals) (hce : cells ≤ R.cells) (hsl : slots ≤ R.slots) (hst : st0 = As.reverse ++ .ref b :: st) (hroom : (st.map fun v => v.category).sum ≤ 8) (hdg : decode cc pc = .ok (.invokevirtual index, 3)) {Qr : Int64 → St → Prop} (hw : wp Qr) (kk : ∀ (r : Int64) (u : St), Qr r u → V cl p l e R s m args below meth c nL D A cells slots (Q) (WF u) (pc + 3) (L) (.long r :: st)) : V cl p l e R s m args below meth c nL D A cells slots (Q) (WF z) (pc) (L) (st0) := by
  subst hst
  intro H locs ls hP hD hS hL
  exact V_back (va_runV (C := y.cls) (g := F0 m pc ls (As.reverse ++ .ref b :: st)) (rest := st) (As := As) ⟨hc.1, hc.2.1, hc.2.2.1, hc.2.2.2.1, hc.2.2.2.2.1⟩ (hM H.size Qr) ⟨callB_of As.length hc.2.2.2.2.1 (good_of hg hcode) rfl rfl rfl (hc.2.2.2.2.1 _ hini) (hc.2.2.2.2.1 _ hlink) hd hR, hc.2.2.2.2.1 _ hinst, hc.2.2.2.2.1 _ hsel⟩ ⟨fb_Ct hN, va_recv hc.2.2.2.2.2.2.1 hP hcl he, pre_Ct (locs := locs) hc hN hP hD hw⟩ rfl rfl hL.1 rfl (lv_room hroom) hdg ⟨hce, hsl⟩) hA hS hL kk
theorem V_callVv (hc : Cx TS NS cl D tys p s m args meth c cc nL own) (hg : ∀ w ∈ TS, (w.onTables && w.keeps) = true ∨ ∃ ty, w = .arrayClass ty) (hN : ∀ w ∈ NS, isNest w) {y : MethodName} {bytes : ByteArray} {maxL index : Nat} {ret : Option FieldType} {fr lo : Nat} {b : Nat} {As : List Value} {wp : (Unit → St → Prop) → Prop} {st0 : List Value} (hA : ∀ q, AX n a s.heap.size q → A q) (hM : Ct l NS cl D tys n a WF mkV y (.code y bytes maxL ret :: TS) { frames := fr, cells := 0, slots := 0, locals := lo } (.ref b :: As) z wp) (hlink : Cond.methodLink own index y ∈ TS) (hini : Cond.initialized y.cls ∈ TS) (hcode : Cond.code y bytes maxL ret ∈ TS) (hinst : Cond.instanceMethod y ∈ TS) (hsel : Cond.selects y.cls y y ∈ TS) {ci : Nat} {fs : List Value} (q0 : Nat) (he : (WF z)[q0]? = some (b, .inr (ci, fs))) {T : u_T} {N : Nat} (hcl : cl[ci]? = some (y.cls, T, N)) (hd : y.cls ≠ "java/lang/invoke/MethodHandle" ∧ y.cls ≠ "java/lang/invoke/VarHandle" ∧ (parseMethodDescriptor y.desc).map (fun d => d.parameters.length) = some As.length) (hR : fr + 1 ≤ R.frames ∧ 8 + (maxL + 11) + lo ≤ R.locals) (hce : cells ≤ R.cells) (hsl : slots ≤ R.slots) (hst : st0 = As.reverse ++ .ref b :: st) (hroom : (st.map fun v => v.category).sum ≤ 8) (hdg : decode cc pc = .ok (.invokevirtual index, 3)) {Qr : Unit → St → Prop} (hw : wp Qr) (kk : ∀ (r : Unit) (u : St), Qr r u → V cl p l e R s m args below meth c nL D A cells slots (Q) (WF u) (pc + 3) (L) (st)) : V cl p l e R s m args below meth c nL D A cells slots (Q) (WF z) (pc) (L) (st0) := by
  subst hst
  intro H locs ls hP hD hS hL
  exact V_back (va_runV (C := y.cls) (g := F0 m pc ls (As.reverse ++ .ref b :: st)) (rest := st) (As := As) ⟨hc.1, hc.2.1, hc.2.2.1, hc.2.2.2.1, hc.2.2.2.2.1⟩ (hM H.size Qr) ⟨callB_of As.length hc.2.2.2.2.1 (good_of hg hcode) rfl rfl rfl (hc.2.2.2.2.1 _ hini) (hc.2.2.2.2.1 _ hlink) hd hR, hc.2.2.2.2.1 _ hinst, hc.2.2.2.2.1 _ hsel⟩ ⟨fb_Ct hN, va_recv hc.2.2.2.2.2.2.1 hP hcl he, pre_Ct (locs := locs) hc hN hP hD hw⟩ rfl rfl hL.1 rfl (lv_room hroom) hdg ⟨hce, hsl⟩) hA hS hL kk
theorem V_callVNi (hc : Cx TS NS cl D tys p s m args meth c cc nL own) (hg : ∀ w ∈ TS, (w.onTables && w.keeps) = true ∨ ∃ ty, w = .arrayClass ty) (hN : ∀ w ∈ NS, isNest w) {y : MethodName} {bytes : ByteArray} {maxL index : Nat} {ret : Option FieldType} {fr lo : Nat} {b : Nat} {As : List Value} {wp : (Int32 → St → Prop) → Prop} {st0 : List Value} (hA : ∀ q, AX n a s.heap.size q → A q) (hM : Ct l NS cl D tys n a WF mkI y (.code y bytes maxL ret :: TS) { frames := fr, cells := 0, slots := 0, locals := lo } (.ref b :: As) z wp) {host : String} (hlink : Cond.methodLinkNest own index y host ∈ NS) (hini : Cond.initialized y.cls ∈ TS) (hcode : Cond.code y bytes maxL ret ∈ TS) (hinst : Cond.instanceMethod y ∈ TS) (hsel : Cond.selects y.cls y y ∈ TS) {ci : Nat} {fs : List Value} (q0 : Nat) (he : (WF z)[q0]? = some (b, .inr (ci, fs))) {T : u_T} {N : Nat} (hcl : cl[ci]? = some (y.cls, T, N)) (hd : y.cls ≠ "java/lang/invoke/MethodHandle" ∧ y.cls ≠ "java/lang/invoke/VarHandle" ∧ (parseMethodDescriptor y.desc).map (fun d => d.parameters.length) = some As.length) (hR : fr + 1 ≤ R.frames ∧ 8 + (maxL + 11) + lo ≤ R.locals) (hce : cells ≤ R.cells) (hsl : slots ≤ R.slots) (hst : st0 = As.reverse ++ .ref b :: st) (hroom : (st.map fun v => v.category).sum ≤ 8) (hdg : decode cc pc = .ok (.invokevirtual index, 3)) {Qr : Int32 → St → Prop} (hw : wp Qr) (kk : ∀ (r : Int32) (u : St), Qr r u → V cl p l e R s m args below meth c nL D A cells slots (Q) (WF u) (pc + 3) (L) (.int r :: st)) : V cl p l e R s m args below meth c nL D A cells slots (Q) (WF z) (pc) (L) (st0) := by
  subst hst
  intro H locs ls hP hD hS hL
  exact V_back (va_runVN (C := y.cls) (g := F0 m pc ls (As.reverse ++ .ref b :: st)) (rest := st) (As := As) ⟨hc.1, hc.2.1, hc.2.2.1, hc.2.2.2.1, hc.2.2.2.2.1⟩ (hM H.size Qr) ⟨va_cnB As.length hc.2.2.2.2.1 (good_of hg hcode) rfl rfl rfl (hc.2.2.2.2.2.1 _ hlink) (hc.2.2.2.2.1 _ hini) hd hR, hc.2.2.2.2.1 _ hinst, hc.2.2.2.2.1 _ hsel⟩ ⟨fb_Ct hN, va_recv hc.2.2.2.2.2.2.1 hP hcl he, pre_Ct (locs := locs) hc hN hP hD hw⟩ rfl rfl hL.1 rfl (lv_room hroom) hdg ⟨hce, hsl⟩) hA hS hL kk
theorem V_callVNl (hc : Cx TS NS cl D tys p s m args meth c cc nL own) (hg : ∀ w ∈ TS, (w.onTables && w.keeps) = true ∨ ∃ ty, w = .arrayClass ty) (hN : ∀ w ∈ NS, isNest w) {y : MethodName} {bytes : ByteArray} {maxL index : Nat} {ret : Option FieldType} {fr lo : Nat} {b : Nat} {As : List Value} {wp : (Int64 → St → Prop) → Prop} {st0 : List Value} (hA : ∀ q, AX n a s.heap.size q → A q) (hM : Ct l NS cl D tys n a WF mkL y (.code y bytes maxL ret :: TS) { frames := fr, cells := 0, slots := 0, locals := lo } (.ref b :: As) z wp) {host : String} (hlink : Cond.methodLinkNest own index y host ∈ NS) (hini : Cond.initialized y.cls ∈ TS) (hcode : Cond.code y bytes maxL ret ∈ TS) (hinst : Cond.instanceMethod y ∈ TS) (hsel : Cond.selects y.cls y y ∈ TS) {ci : Nat} {fs : List Value} (q0 : Nat) (he : (WF z)[q0]? = some (b, .inr (ci, fs))) {T : u_T} {N : Nat} (hcl : cl[ci]? = some (y.cls, T, N)) (hd : y.cls ≠ "java/lang/invoke/MethodHandle" ∧ y.cls ≠ "java/lang/invoke/VarHandle" ∧ (parseMethodDescriptor y.desc).map (fun d => d.parameters.length) = some As.length) (hR : fr + 1 ≤ R.frames ∧ 8 + (maxL + 11) + lo ≤ R.locals) (hce : cells ≤ R.cells) (hsl : slots ≤ R.slots) (hst : st0 = As.reverse ++ .ref b :: st) (hroom : (st.map fun v => v.category).sum ≤ 8) (hdg : decode cc pc = .ok (.invokevirtual index, 3)) {Qr : Int64 → St → Prop} (hw : wp Qr) (kk : ∀ (r : Int64) (u : St), Qr r u → V cl p l e R s m args below meth c nL D A cells slots (Q) (WF u) (pc + 3) (L) (.long r :: st)) : V cl p l e R s m args below meth c nL D A cells slots (Q) (WF z) (pc) (L) (st0) := by
  subst hst
  intro H locs ls hP hD hS hL
  exact V_back (va_runVN (C := y.cls) (g := F0 m pc ls (As.reverse ++ .ref b :: st)) (rest := st) (As := As) ⟨hc.1, hc.2.1, hc.2.2.1, hc.2.2.2.1, hc.2.2.2.2.1⟩ (hM H.size Qr) ⟨va_cnB As.length hc.2.2.2.2.1 (good_of hg hcode) rfl rfl rfl (hc.2.2.2.2.2.1 _ hlink) (hc.2.2.2.2.1 _ hini) hd hR, hc.2.2.2.2.1 _ hinst, hc.2.2.2.2.1 _ hsel⟩ ⟨fb_Ct hN, va_recv hc.2.2.2.2.2.2.1 hP hcl he, pre_Ct (locs := locs) hc hN hP hD hw⟩ rfl rfl hL.1 rfl (lv_room hroom) hdg ⟨hce, hsl⟩) hA hS hL kk
theorem V_callVNv (hc : Cx TS NS cl D tys p s m args meth c cc nL own) (hg : ∀ w ∈ TS, (w.onTables && w.keeps) = true ∨ ∃ ty, w = .arrayClass ty) (hN : ∀ w ∈ NS, isNest w) {y : MethodName} {bytes : ByteArray} {maxL index : Nat} {ret : Option FieldType} {fr lo : Nat} {b : Nat} {As : List Value} {wp : (Unit → St → Prop) → Prop} {st0 : List Value} (hA : ∀ q, AX n a s.heap.size q → A q) (hM : Ct l NS cl D tys n a WF mkV y (.code y bytes maxL ret :: TS) { frames := fr, cells := 0, slots := 0, locals := lo } (.ref b :: As) z wp) {host : String} (hlink : Cond.methodLinkNest own index y host ∈ NS) (hini : Cond.initialized y.cls ∈ TS) (hcode : Cond.code y bytes maxL ret ∈ TS) (hinst : Cond.instanceMethod y ∈ TS) (hsel : Cond.selects y.cls y y ∈ TS) {ci : Nat} {fs : List Value} (q0 : Nat) (he : (WF z)[q0]? = some (b, .inr (ci, fs))) {T : u_T} {N : Nat} (hcl : cl[ci]? = some (y.cls, T, N)) (hd : y.cls ≠ "java/lang/invoke/MethodHandle" ∧ y.cls ≠ "java/lang/invoke/VarHandle" ∧ (parseMethodDescriptor y.desc).map (fun d => d.parameters.length) = some As.length) (hR : fr + 1 ≤ R.frames ∧ 8 + (maxL + 11) + lo ≤ R.locals) (hce : cells ≤ R.cells) (hsl : slots ≤ R.slots) (hst : st0 = As.reverse ++ .ref b :: st) (hroom : (st.map fun v => v.category).sum ≤ 8) (hdg : decode cc pc = .ok (.invokevirtual index, 3)) {Qr : Unit → St → Prop} (hw : wp Qr) (kk : ∀ (r : Unit) (u : St), Qr r u → V cl p l e R s m args below meth c nL D A cells slots (Q) (WF u) (pc + 3) (L) (st)) : V cl p l e R s m args below meth c nL D A cells slots (Q) (WF z) (pc) (L) (st0) := by
  subst hst
  intro H locs ls hP hD hS hL
  exact V_back (va_runVN (C := y.cls) (g := F0 m pc ls (As.reverse ++ .ref b :: st)) (rest := st) (As := As) ⟨hc.1, hc.2.1, hc.2.2.1, hc.2.2.2.1, hc.2.2.2.2.1⟩ (hM H.size Qr) ⟨va_cnB As.length hc.2.2.2.2.1 (good_of hg hcode) rfl rfl rfl (hc.2.2.2.2.2.1 _ hlink) (hc.2.2.2.2.1 _ hini) hd hR, hc.2.2.2.2.1 _ hinst, hc.2.2.2.2.1 _ hsel⟩ ⟨fb_Ct hN, va_recv hc.2.2.2.2.2.2.1 hP hcl he, pre_Ct (locs := locs) hc hN hP hD hw⟩ rfl rfl hL.1 rfl (lv_room hroom) hdg ⟨hce, hsl⟩) hA hS hL kk
theorem V_callSi (hc : Cx TS NS cl D tys p s m args meth c cc nL own) (hg : ∀ w ∈ TS, (w.onTables && w.keeps) = true ∨ ∃ ty, w = .arrayClass ty) (hN : ∀ w ∈ NS, isNest w) {y : MethodName} {bytes : ByteArray} {maxL index : Nat} {ret : Option FieldType} {fr lo : Nat} {b : Nat} {As : List Value} {wp : (Int32 → St → Prop) → Prop} {st0 : List Value} (hA : ∀ q, s.heap.size ≤ q → A q) (hM : Ct l NS cl D tys 0 a (fun _ => []) mkI y (.code y bytes maxL ret :: TS) { frames := fr, cells := 0, slots := 0, locals := lo } As z wp) (hlink : Cond.methodLink own index y ∈ TS) (hini : Cond.initialized y.cls ∈ TS) (hcode : Cond.code y bytes maxL ret ∈ TS) (hstat : Cond.static y ∈ TS)  (hd : y.cls ≠ "java/lang/invoke/MethodHandle" ∧ y.cls ≠ "java/lang/invoke/VarHandle" ∧ (parseMethodDescriptor y.desc).map (fun d => d.parameters.length) = some As.length) (hR : fr + 1 ≤ R.frames ∧ 8 + (maxL + 11) + lo ≤ R.locals) (hce : cells ≤ R.cells) (hsl : slots ≤ R.slots) (hst : st0 = As.reverse ++ st) (hroom : (st.map fun v => v.category).sum ≤ 8) (hdg : decode cc pc = .ok (.invokestatic index, 3)) {Qr : Int32 → St → Prop} (hw : wp Qr) (kk : ∀ (r : Int32) (u : St), Qr r u → V cl p l e R s m args below meth c nL D A cells slots (Q) (X) (pc + 3) (L) (.int r :: st)) : V cl p l e R s m args below meth c nL D A cells slots (Q) (X) (pc) (L) (st0) := by
  subst hst
  intro H locs ls hP hD hS hL
  exact V_backS (va_runS (g := F0 m pc ls (As.reverse ++ st)) (rest := st) (As := As) ⟨hc.1, hc.2.1, hc.2.2.1, hc.2.2.2.1, hc.2.2.2.2.1⟩ (hM H.size Qr) ⟨callB_of As.length hc.2.2.2.2.1 (good_of hg hcode) rfl rfl rfl (hc.2.2.2.2.1 _ hini) (hc.2.2.2.2.1 _ hlink) hd hR, hc.2.2.2.2.1 _ hstat⟩ ⟨fb_Ct hN, pre_Ct (WF := fun _ => []) (A := A) (locs := locs) hc hN (fun k q h => by simp at h) ⟨fun i j p q h => by simp at h, fun k q h => by simp at h⟩ hw⟩ rfl rfl hL.1 rfl (lv_room hroom) hdg ⟨hce, hsl⟩) hA hP hD hS hL kk
theorem V_callSl (hc : Cx TS NS cl D tys p s m args meth c cc nL own) (hg : ∀ w ∈ TS, (w.onTables && w.keeps) = true ∨ ∃ ty, w = .arrayClass ty) (hN : ∀ w ∈ NS, isNest w) {y : MethodName} {bytes : ByteArray} {maxL index : Nat} {ret : Option FieldType} {fr lo : Nat} {b : Nat} {As : List Value} {wp : (Int64 → St → Prop) → Prop} {st0 : List Value} (hA : ∀ q, s.heap.size ≤ q → A q) (hM : Ct l NS cl D tys 0 a (fun _ => []) mkL y (.code y bytes maxL ret :: TS) { frames := fr, cells := 0, slots := 0, locals := lo } As z wp) (hlink : Cond.methodLink own index y ∈ TS) (hini : Cond.initialized y.cls ∈ TS) (hcode : Cond.code y bytes maxL ret ∈ TS) (hstat : Cond.static y ∈ TS)  (hd : y.cls ≠ "java/lang/invoke/MethodHandle" ∧ y.cls ≠ "java/lang/invoke/VarHandle" ∧ (parseMethodDescriptor y.desc).map (fun d => d.parameters.length) = some As.length) (hR : fr + 1 ≤ R.frames ∧ 8 + (maxL + 11) + lo ≤ R.locals) (hce : cells ≤ R.cells) (hsl : slots ≤ R.slots) (hst : st0 = As.reverse ++ st) (hroom : (st.map fun v => v.category).sum ≤ 8) (hdg : decode cc pc = .ok (.invokestatic index, 3)) {Qr : Int64 → St → Prop} (hw : wp Qr) (kk : ∀ (r : Int64) (u : St), Qr r u → V cl p l e R s m args below meth c nL D A cells slots (Q) (X) (pc + 3) (L) (.long r :: st)) : V cl p l e R s m args below meth c nL D A cells slots (Q) (X) (pc) (L) (st0) := by
  subst hst
  intro H locs ls hP hD hS hL
  exact V_backS (va_runS (g := F0 m pc ls (As.reverse ++ st)) (rest := st) (As := As) ⟨hc.1, hc.2.1, hc.2.2.1, hc.2.2.2.1, hc.2.2.2.2.1⟩ (hM H.size Qr) ⟨callB_of As.length hc.2.2.2.2.1 (good_of hg hcode) rfl rfl rfl (hc.2.2.2.2.1 _ hini) (hc.2.2.2.2.1 _ hlink) hd hR, hc.2.2.2.2.1 _ hstat⟩ ⟨fb_Ct hN, pre_Ct (WF := fun _ => []) (A := A) (locs := locs) hc hN (fun k q h => by simp at h) ⟨fun i j p q h => by simp at h, fun k q h => by simp at h⟩ hw⟩ rfl rfl hL.1 rfl (lv_room hroom) hdg ⟨hce, hsl⟩) hA hP hD hS hL kk
theorem V_callSv (hc : Cx TS NS cl D tys p s m args meth c cc nL own) (hg : ∀ w ∈ TS, (w.onTables && w.keeps) = true ∨ ∃ ty, w = .arrayClass ty) (hN : ∀ w ∈ NS, isNest w) {y : MethodName} {bytes : ByteArray} {maxL index : Nat} {ret : Option FieldType} {fr lo : Nat} {b : Nat} {As : List Value} {wp : (Unit → St → Prop) → Prop} {st0 : List Value} (hA : ∀ q, s.heap.size ≤ q → A q) (hM : Ct l NS cl D tys 0 a (fun _ => []) mkV y (.code y bytes maxL ret :: TS) { frames := fr, cells := 0, slots := 0, locals := lo } As z wp) (hlink : Cond.methodLink own index y ∈ TS) (hini : Cond.initialized y.cls ∈ TS) (hcode : Cond.code y bytes maxL ret ∈ TS) (hstat : Cond.static y ∈ TS)  (hd : y.cls ≠ "java/lang/invoke/MethodHandle" ∧ y.cls ≠ "java/lang/invoke/VarHandle" ∧ (parseMethodDescriptor y.desc).map (fun d => d.parameters.length) = some As.length) (hR : fr + 1 ≤ R.frames ∧ 8 + (maxL + 11) + lo ≤ R.locals) (hce : cells ≤ R.cells) (hsl : slots ≤ R.slots) (hst : st0 = As.reverse ++ st) (hroom : (st.map fun v => v.category).sum ≤ 8) (hdg : decode cc pc = .ok (.invokestatic index, 3)) {Qr : Unit → St → Prop} (hw : wp Qr) (kk : ∀ (r : Unit) (u : St), Qr r u → V cl p l e R s m args below meth c nL D A cells slots (Q) (X) (pc + 3) (L) (st)) : V cl p l e R s m args below meth c nL D A cells slots (Q) (X) (pc) (L) (st0) := by
  subst hst
  intro H locs ls hP hD hS hL
  exact V_backS (va_runS (g := F0 m pc ls (As.reverse ++ st)) (rest := st) (As := As) ⟨hc.1, hc.2.1, hc.2.2.1, hc.2.2.2.1, hc.2.2.2.2.1⟩ (hM H.size Qr) ⟨callB_of As.length hc.2.2.2.2.1 (good_of hg hcode) rfl rfl rfl (hc.2.2.2.2.1 _ hini) (hc.2.2.2.2.1 _ hlink) hd hR, hc.2.2.2.2.1 _ hstat⟩ ⟨fb_Ct hN, pre_Ct (WF := fun _ => []) (A := A) (locs := locs) hc hN (fun k q h => by simp at h) ⟨fun i j p q h => by simp at h, fun k q h => by simp at h⟩ hw⟩ rfl rfl hL.1 rfl (lv_room hroom) hdg ⟨hce, hsl⟩) hA hP hD hS hL kk
theorem V_callSNi (hc : Cx TS NS cl D tys p s m args meth c cc nL own) (hg : ∀ w ∈ TS, (w.onTables && w.keeps) = true ∨ ∃ ty, w = .arrayClass ty) (hN : ∀ w ∈ NS, isNest w) {y : MethodName} {bytes : ByteArray} {maxL index : Nat} {ret : Option FieldType} {fr lo : Nat} {b : Nat} {As : List Value} {wp : (Int32 → St → Prop) → Prop} {st0 : List Value} (hA : ∀ q, s.heap.size ≤ q → A q) (hM : Ct l NS cl D tys 0 a (fun _ => []) mkI y (.code y bytes maxL ret :: TS) { frames := fr, cells := 0, slots := 0, locals := lo } As z wp) {host : String} (hlink : Cond.methodLinkNest own index y host ∈ NS) (hini : Cond.initialized y.cls ∈ TS) (hcode : Cond.code y bytes maxL ret ∈ TS) (hstat : Cond.static y ∈ TS)  (hd : y.cls ≠ "java/lang/invoke/MethodHandle" ∧ y.cls ≠ "java/lang/invoke/VarHandle" ∧ (parseMethodDescriptor y.desc).map (fun d => d.parameters.length) = some As.length) (hR : fr + 1 ≤ R.frames ∧ 8 + (maxL + 11) + lo ≤ R.locals) (hce : cells ≤ R.cells) (hsl : slots ≤ R.slots) (hst : st0 = As.reverse ++ st) (hroom : (st.map fun v => v.category).sum ≤ 8) (hdg : decode cc pc = .ok (.invokestatic index, 3)) {Qr : Int32 → St → Prop} (hw : wp Qr) (kk : ∀ (r : Int32) (u : St), Qr r u → V cl p l e R s m args below meth c nL D A cells slots (Q) (X) (pc + 3) (L) (.int r :: st)) : V cl p l e R s m args below meth c nL D A cells slots (Q) (X) (pc) (L) (st0) := by
  subst hst
  intro H locs ls hP hD hS hL
  exact V_backS (va_runSN (g := F0 m pc ls (As.reverse ++ st)) (rest := st) (As := As) ⟨hc.1, hc.2.1, hc.2.2.1, hc.2.2.2.1, hc.2.2.2.2.1⟩ (hM H.size Qr) ⟨va_cnB As.length hc.2.2.2.2.1 (good_of hg hcode) rfl rfl rfl (hc.2.2.2.2.2.1 _ hlink) (hc.2.2.2.2.1 _ hini) hd hR, hc.2.2.2.2.1 _ hstat, trivial⟩ ⟨fb_Ct hN, pre_Ct (WF := fun _ => []) (A := A) (locs := locs) hc hN (fun k q h => by simp at h) ⟨fun i j p q h => by simp at h, fun k q h => by simp at h⟩ hw⟩ rfl rfl hL.1 rfl (lv_room hroom) hdg ⟨hce, hsl⟩) hA hP hD hS hL kk
theorem V_callSNl (hc : Cx TS NS cl D tys p s m args meth c cc nL own) (hg : ∀ w ∈ TS, (w.onTables && w.keeps) = true ∨ ∃ ty, w = .arrayClass ty) (hN : ∀ w ∈ NS, isNest w) {y : MethodName} {bytes : ByteArray} {maxL index : Nat} {ret : Option FieldType} {fr lo : Nat} {b : Nat} {As : List Value} {wp : (Int64 → St → Prop) → Prop} {st0 : List Value} (hA : ∀ q, s.heap.size ≤ q → A q) (hM : Ct l NS cl D tys 0 a (fun _ => []) mkL y (.code y bytes maxL ret :: TS) { frames := fr, cells := 0, slots := 0, locals := lo } As z wp) {host : String} (hlink : Cond.methodLinkNest own index y host ∈ NS) (hini : Cond.initialized y.cls ∈ TS) (hcode : Cond.code y bytes maxL ret ∈ TS) (hstat : Cond.static y ∈ TS)  (hd : y.cls ≠ "java/lang/invoke/MethodHandle" ∧ y.cls ≠ "java/lang/invoke/VarHandle" ∧ (parseMethodDescriptor y.desc).map (fun d => d.parameters.length) = some As.length) (hR : fr + 1 ≤ R.frames ∧ 8 + (maxL + 11) + lo ≤ R.locals) (hce : cells ≤ R.cells) (hsl : slots ≤ R.slots) (hst : st0 = As.reverse ++ st) (hroom : (st.map fun v => v.category).sum ≤ 8) (hdg : decode cc pc = .ok (.invokestatic index, 3)) {Qr : Int64 → St → Prop} (hw : wp Qr) (kk : ∀ (r : Int64) (u : St), Qr r u → V cl p l e R s m args below meth c nL D A cells slots (Q) (X) (pc + 3) (L) (.long r :: st)) : V cl p l e R s m args below meth c nL D A cells slots (Q) (X) (pc) (L) (st0) := by
  subst hst
  intro H locs ls hP hD hS hL
  exact V_backS (va_runSN (g := F0 m pc ls (As.reverse ++ st)) (rest := st) (As := As) ⟨hc.1, hc.2.1, hc.2.2.1, hc.2.2.2.1, hc.2.2.2.2.1⟩ (hM H.size Qr) ⟨va_cnB As.length hc.2.2.2.2.1 (good_of hg hcode) rfl rfl rfl (hc.2.2.2.2.2.1 _ hlink) (hc.2.2.2.2.1 _ hini) hd hR, hc.2.2.2.2.1 _ hstat, trivial⟩ ⟨fb_Ct hN, pre_Ct (WF := fun _ => []) (A := A) (locs := locs) hc hN (fun k q h => by simp at h) ⟨fun i j p q h => by simp at h, fun k q h => by simp at h⟩ hw⟩ rfl rfl hL.1 rfl (lv_room hroom) hdg ⟨hce, hsl⟩) hA hP hD hS hL kk
theorem V_callSNv (hc : Cx TS NS cl D tys p s m args meth c cc nL own) (hg : ∀ w ∈ TS, (w.onTables && w.keeps) = true ∨ ∃ ty, w = .arrayClass ty) (hN : ∀ w ∈ NS, isNest w) {y : MethodName} {bytes : ByteArray} {maxL index : Nat} {ret : Option FieldType} {fr lo : Nat} {b : Nat} {As : List Value} {wp : (Unit → St → Prop) → Prop} {st0 : List Value} (hA : ∀ q, s.heap.size ≤ q → A q) (hM : Ct l NS cl D tys 0 a (fun _ => []) mkV y (.code y bytes maxL ret :: TS) { frames := fr, cells := 0, slots := 0, locals := lo } As z wp) {host : String} (hlink : Cond.methodLinkNest own index y host ∈ NS) (hini : Cond.initialized y.cls ∈ TS) (hcode : Cond.code y bytes maxL ret ∈ TS) (hstat : Cond.static y ∈ TS)  (hd : y.cls ≠ "java/lang/invoke/MethodHandle" ∧ y.cls ≠ "java/lang/invoke/VarHandle" ∧ (parseMethodDescriptor y.desc).map (fun d => d.parameters.length) = some As.length) (hR : fr + 1 ≤ R.frames ∧ 8 + (maxL + 11) + lo ≤ R.locals) (hce : cells ≤ R.cells) (hsl : slots ≤ R.slots) (hst : st0 = As.reverse ++ st) (hroom : (st.map fun v => v.category).sum ≤ 8) (hdg : decode cc pc = .ok (.invokestatic index, 3)) {Qr : Unit → St → Prop} (hw : wp Qr) (kk : ∀ (r : Unit) (u : St), Qr r u → V cl p l e R s m args below meth c nL D A cells slots (Q) (X) (pc + 3) (L) (st)) : V cl p l e R s m args below meth c nL D A cells slots (Q) (X) (pc) (L) (st0) := by
  subst hst
  intro H locs ls hP hD hS hL
  exact V_backS (va_runSN (g := F0 m pc ls (As.reverse ++ st)) (rest := st) (As := As) ⟨hc.1, hc.2.1, hc.2.2.1, hc.2.2.2.1, hc.2.2.2.2.1⟩ (hM H.size Qr) ⟨va_cnB As.length hc.2.2.2.2.1 (good_of hg hcode) rfl rfl rfl (hc.2.2.2.2.2.1 _ hlink) (hc.2.2.2.2.1 _ hini) hd hR, hc.2.2.2.2.1 _ hstat, trivial⟩ ⟨fb_Ct hN, pre_Ct (WF := fun _ => []) (A := A) (locs := locs) hc hN (fun k q h => by simp at h) ⟨fun i j p q h => by simp at h, fun k q h => by simp at h⟩ hw⟩ rfl rfl hL.1 rfl (lv_room hroom) hdg ⟨hce, hsl⟩) hA hP hD hS hL kk
end VB
end
section
def R_X0 : String := "ChangeFeed"
def F_X0 : u_T := fun k => match k with
  | 0 => ("ChangeFeed", "keyCount", "I", true)
  | 1 => ("ChangeFeed", "source", "LChangeFeed$Source;", true)
  | 2 => ("ChangeFeed", "channel", "LChangeFeed$Channel;", true)
  | 3 => ("ChangeFeed", "pipeline", "LChangeFeed$Pipeline;", true)
  | _ => ("ChangeFeed", "sink", "LChangeFeed$Sink;", true)
def t_X0 : Nat → FieldType := fun k => match k with
  | 0 => .int
  | 1 => .object "ChangeFeed$Source"
  | 2 => .object "ChangeFeed$Channel"
  | 3 => .object "ChangeFeed$Pipeline"
  | _ => .object "ChangeFeed$Sink"
theorem n_X0 : ∀ a, a < 5 → ∀ b, b < 5 → a ≠ b → (F_X0 a).2.1 ≠ (F_X0 b).2.1 := by decide +kernel
theorem t_X0_ok : ∀ k, k < 5 → parseFieldDescriptor (F_X0 k).2.2.1 = some (t_X0 k) := by decide +kernel
def R_X1 : String := "ChangeFeed$Source"
def F_X1 : u_T := fun k => match k with
  | 0 => ("ChangeFeed$Source", "log", "LChangeFeed$Log;", true)
  | 1 => ("ChangeFeed$Source", "table", "[J", true)
  | 2 => ("ChangeFeed$Source", "lockers", "[I", true)
  | 3 => ("ChangeFeed$Source", "changed", "[J", true)
  | 4 => ("ChangeFeed$Source", "openNumbers", "[I", true)
  | 5 => ("ChangeFeed$Source", "openCount", "I", false)
  | _ => ("ChangeFeed$Source", "begun", "I", false)
def t_X1 : Nat → FieldType := fun k => match k with
  | 0 => .object "ChangeFeed$Log"
  | 1 => .array .long
  | 2 => .array .int
  | 3 => .array .long
  | 4 => .array .int
  | 5 => .int
  | _ => .int
theorem n_X1 : ∀ a, a < 7 → ∀ b, b < 7 → a ≠ b → (F_X1 a).2.1 ≠ (F_X1 b).2.1 := by decide +kernel
theorem t_X1_ok : ∀ k, k < 7 → parseFieldDescriptor (F_X1 k).2.2.1 = some (t_X1 k) := by decide +kernel
def R_X2 : String := "ChangeFeed$Channel"
def F_X2 : u_T := fun k => match k with
  | 0 => ("ChangeFeed$Channel", "words", "[I", true)
  | 1 => ("ChangeFeed$Channel", "size", "I", false)
  | _ => ("ChangeFeed$Channel", "epoch", "I", false)
def t_X2 : Nat → FieldType := fun k => match k with
  | 0 => .array .int
  | 1 => .int
  | _ => .int
theorem n_X2 : ∀ a, a < 3 → ∀ b, b < 3 → a ≠ b → (F_X2 a).2.1 ≠ (F_X2 b).2.1 := by decide +kernel
theorem t_X2_ok : ∀ k, k < 3 → parseFieldDescriptor (F_X2 k).2.2.1 = some (t_X2 k) := by decide +kernel
def R_X3 : String := "ChangeFeed$Pipeline"
def F_X3 : u_T := fun k => match k with
  | 0 => ("ChangeFeed$Pipeline", "log", "LChangeFeed$Log;", true)
  | 1 => ("ChangeFeed$Pipeline", "source", "LChangeFeed$Source;", true)
  | 2 => ("ChangeFeed$Pipeline", "channel", "LChangeFeed$Channel;", true)
  | 3 => ("ChangeFeed$Pipeline", "keyCount", "I", true)
  | 4 => ("ChangeFeed$Pipeline", "chunkSize", "I", true)
  | 5 => ("ChangeFeed$Pipeline", "timeout", "I", true)
  | 6 => ("ChangeFeed$Pipeline", "work", "LChangeFeed$ChunkWork;", true)
  | 7 => ("ChangeFeed$Pipeline", "borne", "[J", true)
  | 8 => ("ChangeFeed$Pipeline", "positions", "[I", true)
  | 9 => ("ChangeFeed$Pipeline", "befores", "[I", true)
  | 10 => ("ChangeFeed$Pipeline", "sentAt", "[I", true)
  | 11 => ("ChangeFeed$Pipeline", "queued", "I", false)
  | 12 => ("ChangeFeed$Pipeline", "time", "I", false)
  | 13 => ("ChangeFeed$Pipeline", "from", "I", false)
  | 14 => ("ChangeFeed$Pipeline", "lastEmitted", "I", false)
  | 15 => ("ChangeFeed$Pipeline", "place", "I", false)
  | _ => ("ChangeFeed$Pipeline", "next", "I", false)
def t_X3 : Nat → FieldType := fun k => match k with
  | 0 => .object "ChangeFeed$Log"
  | 1 => .object "ChangeFeed$Source"
  | 2 => .object "ChangeFeed$Channel"
  | 3 => .int
  | 4 => .int
  | 5 => .int
  | 6 => .object "ChangeFeed$ChunkWork"
  | 7 => .array .long
  | 8 => .array .int
  | 9 => .array .int
  | 10 => .array .int
  | 11 => .int
  | 12 => .int
  | 13 => .int
  | 14 => .int
  | 15 => .int
  | _ => .int
theorem n_X3 : ∀ a, a < 17 → ∀ b, b < 17 → a ≠ b → (F_X3 a).2.1 ≠ (F_X3 b).2.1 := by decide +kernel
theorem t_X3_ok : ∀ k, k < 17 → parseFieldDescriptor (F_X3 k).2.2.1 = some (t_X3 k) := by decide +kernel
def R_X4 : String := "ChangeFeed$Sink"
def F_X4 : u_T := fun k => match k with
  | 0 => ("ChangeFeed$Sink", "log", "LChangeFeed$Log;", true)
  | 1 => ("ChangeFeed$Sink", "chunkSize", "I", true)
  | 2 => ("ChangeFeed$Sink", "least", "I", true)
  | 3 => ("ChangeFeed$Sink", "rows", "[J", true)
  | 4 => ("ChangeFeed$Sink", "staged", "I", false)
  | 5 => ("ChangeFeed$Sink", "position", "I", false)
  | _ => ("ChangeFeed$Sink", "progress", "I", false)
def t_X4 : Nat → FieldType := fun k => match k with
  | 0 => .object "ChangeFeed$Log"
  | 1 => .int
  | 2 => .int
  | 3 => .array .long
  | 4 => .int
  | 5 => .int
  | _ => .int
theorem n_X4 : ∀ a, a < 7 → ∀ b, b < 7 → a ≠ b → (F_X4 a).2.1 ≠ (F_X4 b).2.1 := by decide +kernel
theorem t_X4_ok : ∀ k, k < 7 → parseFieldDescriptor (F_X4 k).2.2.1 = some (t_X4 k) := by decide +kernel
def R_X5 : String := "ChangeFeed$Log"
def F_X5 : u_T := fun k => match k with
  | 0 => ("ChangeFeed$Log", "kinds", "[I", true)
  | 1 => ("ChangeFeed$Log", "transactions", "[I", true)
  | 2 => ("ChangeFeed$Log", "keys", "[I", true)
  | 3 => ("ChangeFeed$Log", "rows", "[J", true)
  | _ => ("ChangeFeed$Log", "size", "I", false)
def t_X5 : Nat → FieldType := fun k => match k with
  | 0 => .array .int
  | 1 => .array .int
  | 2 => .array .int
  | 3 => .array .long
  | _ => .int
theorem n_X5 : ∀ a, a < 5 → ∀ b, b < 5 → a ≠ b → (F_X5 a).2.1 ≠ (F_X5 b).2.1 := by decide +kernel
theorem t_X5_ok : ∀ k, k < 5 → parseFieldDescriptor (F_X5 k).2.2.1 = some (t_X5 k) := by decide +kernel
def R_X6 : String := "ChangeFeed$ChunkWork"
def F_X6 : u_T := fun k => match k with
  | 0 => ("ChangeFeed$ChunkWork", "selected", "[J", true)
  | 1 => ("ChangeFeed$ChunkWork", "struck", "[Z", true)
  | 2 => ("ChangeFeed$ChunkWork", "phase", "I", false)
  | 3 => ("ChangeFeed$ChunkWork", "low", "I", false)
  | _ => ("ChangeFeed$ChunkWork", "high", "I", false)
def t_X6 : Nat → FieldType := fun k => match k with
  | 0 => .array .long
  | 1 => .array .boolean
  | 2 => .int
  | 3 => .int
  | _ => .int
theorem n_X6 : ∀ a, a < 5 → ∀ b, b < 5 → a ≠ b → (F_X6 a).2.1 ≠ (F_X6 b).2.1 := by decide +kernel
theorem t_X6_ok : ∀ k, k < 5 → parseFieldDescriptor (F_X6 k).2.2.1 = some (t_X6 k) := by decide +kernel
def R_M0 : String := "ChangeFeedModel"
def F_M0 : u_T := fun k => match k with
  | 0 => ("ChangeFeedModel", "keys", "I", false)
  | 1 => ("ChangeFeedModel", "chunk", "I", false)
  | 2 => ("ChangeFeedModel", "timeout", "I", false)
  | 3 => ("ChangeFeedModel", "least", "I", false)
  | 4 => ("ChangeFeedModel", "length", "I", false)
  | 5 => ("ChangeFeedModel", "kind", "[I", false)
  | 6 => ("ChangeFeedModel", "who", "[I", false)
  | 7 => ("ChangeFeedModel", "keyOf", "[I", false)
  | 8 => ("ChangeFeedModel", "group", "[I", false)
  | 9 => ("ChangeFeedModel", "amount", "[I", false)
  | 10 => ("ChangeFeedModel", "lowOf", "[I", false)
  | 11 => ("ChangeFeedModel", "cutOf", "[I", false)
  | 12 => ("ChangeFeedModel", "firstOf", "[I", false)
  | 13 => ("ChangeFeedModel", "begun", "I", false)
  | 14 => ("ChangeFeedModel", "opened", "I", false)
  | 15 => ("ChangeFeedModel", "open", "[I", false)
  | 16 => ("ChangeFeedModel", "lockedBy", "[I", false)
  | 17 => ("ChangeFeedModel", "epoch", "I", false)
  | 18 => ("ChangeFeedModel", "start", "I", false)
  | 19 => ("ChangeFeedModel", "before", "I", false)
  | 20 => ("ChangeFeedModel", "reads", "I", false)
  | 21 => ("ChangeFeedModel", "next", "I", false)
  | 22 => ("ChangeFeedModel", "work", "I", false)
  | 23 => ("ChangeFeedModel", "low", "I", false)
  | 24 => ("ChangeFeedModel", "cut", "I", false)
  | 25 => ("ChangeFeedModel", "high", "I", false)
  | 26 => ("ChangeFeedModel", "queued", "I", false)
  | 27 => ("ChangeFeedModel", "qPosition", "[I", false)
  | 28 => ("ChangeFeedModel", "qBefore", "[I", false)
  | 29 => ("ChangeFeedModel", "qSent", "[I", false)
  | 30 => ("ChangeFeedModel", "time", "I", false)
  | 31 => ("ChangeFeedModel", "packets", "I", false)
  | 32 => ("ChangeFeedModel", "cKind", "[I", false)
  | 33 => ("ChangeFeedModel", "cEpoch", "[I", false)
  | 34 => ("ChangeFeedModel", "cPosition", "[I", false)
  | 35 => ("ChangeFeedModel", "cBefore", "[I", false)
  | 36 => ("ChangeFeedModel", "applied", "I", false)
  | 37 => ("ChangeFeedModel", "done", "[I", false)
  | _ => ("ChangeFeedModel", "staged", "I", false)
def t_M0 : Nat → FieldType := fun k => match k with
  | 0 => .int
  | 1 => .int
  | 2 => .int
  | 3 => .int
  | 4 => .int
  | 5 => .array .int
  | 6 => .array .int
  | 7 => .array .int
  | 8 => .array .int
  | 9 => .array .int
  | 10 => .array .int
  | 11 => .array .int
  | 12 => .array .int
  | 13 => .int
  | 14 => .int
  | 15 => .array .int
  | 16 => .array .int
  | 17 => .int
  | 18 => .int
  | 19 => .int
  | 20 => .int
  | 21 => .int
  | 22 => .int
  | 23 => .int
  | 24 => .int
  | 25 => .int
  | 26 => .int
  | 27 => .array .int
  | 28 => .array .int
  | 29 => .array .int
  | 30 => .int
  | 31 => .int
  | 32 => .array .int
  | 33 => .array .int
  | 34 => .array .int
  | 35 => .array .int
  | 36 => .int
  | 37 => .array .int
  | _ => .int
theorem n_M0 : ∀ a, a < 39 → ∀ b, b < 39 → a ≠ b → (F_M0 a).2.1 ≠ (F_M0 b).2.1 := by decide +kernel
theorem t_M0_ok : ∀ k, k < 39 → parseFieldDescriptor (F_M0 k).2.2.1 = some (t_M0 k) := by decide +kernel
abbrev CL : List vw_C := [(R_X0, F_X0, 5), (R_X1, F_X1, 7), (R_X2, F_X2, 3), (R_X3, F_X3, 17), (R_X4, F_X4, 7), (R_X5, F_X5, 5), (R_X6, F_X6, 5), (R_M0, F_M0, 39)]
def isNestB : Cond → Bool
  | .fieldLinkNest _ _ _ _ _ _ => true
  | .methodLinkNest _ _ _ _ => true
  | _ => false
def TS : List Cond := lw_tbl.filter goodWord
def NS : List Cond := lw_tbl.filter isNestB
theorem TS_good : ∀ w ∈ TS, (w.onTables && w.keeps) = true ∨ ∃ ty, w = .arrayClass ty := fun _ h => good_of_word (List.mem_filter.mp h).2
theorem in_TS {w : Cond} (h : w ∈ tables_1) (hg : goodWord w = true) : w ∈ TS := List.mem_filter.mpr ⟨List.mem_append_right _ h, hg⟩
theorem in_TSp {w : Cond} (h : w ∈ k2_sels lw_privs) (hg : goodWord w = true) : w ∈ TS := List.mem_filter.mpr ⟨List.mem_append_left _ h, hg⟩
theorem in_NS {w : Cond} (h : w ∈ tables_1) (hg : isNestB w = true) : w ∈ NS := List.mem_filter.mpr ⟨List.mem_append_right _ h, hg⟩
abbrev b_X0_init : ByteArray := prog_1_method_1_code
def y_X0_init : MethodName := ⟨"ChangeFeed", "<init>", "(IIII)V"⟩
abbrev b_X0_within : ByteArray := prog_1_method_26_code
def y_X0_within : MethodName := ⟨"ChangeFeed", "within", "(II)I"⟩
abbrev b_X5_init : ByteArray := prog_4_method_1_code
def y_X5_init : MethodName := ⟨"ChangeFeed$Log", "<init>", "()V"⟩
abbrev b_X1_init : ByteArray := prog_7_method_1_code
def y_X1_init : MethodName := ⟨"ChangeFeed$Source", "<init>", "(LChangeFeed$Log;I)V"⟩
abbrev b_X0_rowOf : ByteArray := prog_1_method_27_code
def y_X0_rowOf : MethodName := ⟨"ChangeFeed", "rowOf", "(II)J"⟩
abbrev b_X2_init : ByteArray := prog_2_method_1_code
def y_X2_init : MethodName := ⟨"ChangeFeed$Channel", "<init>", "()V"⟩
abbrev b_X3_init : ByteArray := prog_5_method_1_code
def y_X3_init : MethodName := ⟨"ChangeFeed$Pipeline", "<init>", "(LChangeFeed$Log;LChangeFeed$Source;LChangeFeed$Channel;III)V"⟩
abbrev b_X6_init : ByteArray := prog_3_method_1_code
def y_X6_init : MethodName := ⟨"ChangeFeed$ChunkWork", "<init>", "(I)V"⟩
abbrev b_X4_init : ByteArray := prog_6_method_1_code
def y_X4_init : MethodName := ⟨"ChangeFeed$Sink", "<init>", "(LChangeFeed$Log;III)V"⟩
abbrev b_J0_fill : ByteArray := prog_12_method_101_code
def y_J0_fill : MethodName := ⟨"java/util/Arrays", "fill", "([JJ)V"⟩
abbrev b_X0_begin : ByteArray := prog_1_method_2_code
def y_X0_begin : MethodName := ⟨"ChangeFeed", "begin", "()I"⟩
abbrev b_X1_open : ByteArray := prog_7_method_3_code
def y_X1_open : MethodName := ⟨"ChangeFeed$Source", "open", "()I"⟩
abbrev b_X1_hasRoom : ByteArray := prog_7_method_2_code
def y_X1_hasRoom : MethodName := ⟨"ChangeFeed$Source", "hasRoom", "(II)Z"⟩
abbrev b_X0_lock : ByteArray := prog_1_method_3_code
def y_X0_lock : MethodName := ⟨"ChangeFeed", "lock", "(II)I"⟩
abbrev b_X0_refusalOf : ByteArray := prog_1_method_23_code
def y_X0_refusalOf : MethodName := ⟨"ChangeFeed", "refusalOf", "(II)I"⟩
abbrev b_X1_isOpen : ByteArray := prog_7_method_4_code
def y_X1_isOpen : MethodName := ⟨"ChangeFeed$Source", "isOpen", "(I)Z"⟩
abbrev b_X1_slotOf : ByteArray := prog_7_method_13_code
def y_X1_slotOf : MethodName := ⟨"ChangeFeed$Source", "slotOf", "(I)I"⟩
abbrev b_X0_isKey : ByteArray := prog_1_method_24_code
def y_X0_isKey : MethodName := ⟨"ChangeFeed", "isKey", "(I)Z"⟩
abbrev b_X1_isLockedByOther : ByteArray := prog_7_method_5_code
def y_X1_isLockedByOther : MethodName := ⟨"ChangeFeed$Source", "isLockedByOther", "(II)Z"⟩
abbrev b_X1_takeLock : ByteArray := prog_7_method_6_code
def y_X1_takeLock : MethodName := ⟨"ChangeFeed$Source", "takeLock", "(II)V"⟩
abbrev b_X0_put : ByteArray := prog_1_method_4_code
def y_X0_put : MethodName := ⟨"ChangeFeed", "put", "(IIII)I"⟩
abbrev b_X0_isGroup : ByteArray := prog_1_method_25_code
def y_X0_isGroup : MethodName := ⟨"ChangeFeed", "isGroup", "(I)Z"⟩
abbrev b_X1_change : ByteArray := prog_7_method_9_code
def y_X1_change : MethodName := ⟨"ChangeFeed$Source", "change", "(IIJ)I"⟩
abbrev b_X5_write : ByteArray := prog_4_method_2_code
def y_X5_write : MethodName := ⟨"ChangeFeed$Log", "write", "(IIIJ)I"⟩
abbrev b_X0_remove : ByteArray := prog_1_method_5_code
def y_X0_remove : MethodName := ⟨"ChangeFeed", "remove", "(II)I"⟩
abbrev b_X1_seenBy : ByteArray := prog_7_method_8_code
def y_X1_seenBy : MethodName := ⟨"ChangeFeed$Source", "seenBy", "(II)J"⟩
abbrev b_X0_end : ByteArray := prog_1_method_6_code
def y_X0_end : MethodName := ⟨"ChangeFeed", "end", "(IZ)I"⟩
abbrev b_X1_finish : ByteArray := prog_7_method_10_code
def y_X1_finish : MethodName := ⟨"ChangeFeed$Source", "finish", "(IZ)I"⟩
abbrev b_X1_loosen : ByteArray := prog_7_method_12_code
def y_X1_loosen : MethodName := ⟨"ChangeFeed$Source", "loosen", "(IZ)V"⟩
abbrev b_X1_close : ByteArray := prog_7_method_14_code
def y_X1_close : MethodName := ⟨"ChangeFeed$Source", "close", "(I)V"⟩
abbrev b_X0_row : ByteArray := prog_1_method_7_code
def y_X0_row : MethodName := ⟨"ChangeFeed", "row", "(II)J"⟩
abbrev b_X1_inTable : ByteArray := prog_7_method_7_code
def y_X1_inTable : MethodName := ⟨"ChangeFeed$Source", "inTable", "(I)J"⟩
abbrev b_X0_crash : ByteArray := prog_1_method_8_code
def y_X0_crash : MethodName := ⟨"ChangeFeed", "crash", "(I)Z"⟩
abbrev b_X1_abortAll : ByteArray := prog_7_method_11_code
def y_X1_abortAll : MethodName := ⟨"ChangeFeed$Source", "abortAll", "()V"⟩
abbrev b_X4_forgetStaged : ByteArray := prog_6_method_2_code
def y_X4_forgetStaged : MethodName := ⟨"ChangeFeed$Sink", "forgetStaged", "()V"⟩
abbrev b_X2_startEpoch : ByteArray := prog_2_method_2_code
def y_X2_startEpoch : MethodName := ⟨"ChangeFeed$Channel", "startEpoch", "()V"⟩
abbrev b_X3_restart : ByteArray := prog_5_method_2_code
def y_X3_restart : MethodName := ⟨"ChangeFeed$Pipeline", "restart", "(II)V"⟩
abbrev b_X6_stop : ByteArray := prog_3_method_5_code
def y_X6_stop : MethodName := ⟨"ChangeFeed$ChunkWork", "stop", "()V"⟩
abbrev b_X0_snapshot : ByteArray := prog_1_method_9_code
def y_X0_snapshot : MethodName := ⟨"ChangeFeed", "snapshot", "()I"⟩
abbrev b_X3_advanceChunk : ByteArray := prog_5_method_3_code
def y_X3_advanceChunk : MethodName := ⟨"ChangeFeed$Pipeline", "advanceChunk", "()I"⟩
abbrev b_X3_beginChunk : ByteArray := prog_5_method_7_code
def y_X3_beginChunk : MethodName := ⟨"ChangeFeed$Pipeline", "beginChunk", "()I"⟩
abbrev b_X6_start : ByteArray := prog_3_method_2_code
def y_X6_start : MethodName := ⟨"ChangeFeed$ChunkWork", "start", "(I)V"⟩
abbrev b_X3_afterChunk : ByteArray := prog_5_method_9_code
def y_X3_afterChunk : MethodName := ⟨"ChangeFeed$Pipeline", "afterChunk", "()I"⟩
abbrev b_X6_select : ByteArray := prog_3_method_3_code
def y_X6_select : MethodName := ⟨"ChangeFeed$ChunkWork", "select", "(LChangeFeed$Source;II)V"⟩
abbrev b_X3_closeChunk : ByteArray := prog_5_method_8_code
def y_X3_closeChunk : MethodName := ⟨"ChangeFeed$Pipeline", "closeChunk", "()I"⟩
abbrev b_X6_close : ByteArray := prog_3_method_4_code
def y_X6_close : MethodName := ⟨"ChangeFeed$ChunkWork", "close", "(I)V"⟩
abbrev b_X0_step : ByteArray := prog_1_method_10_code
def y_X0_step : MethodName := ⟨"ChangeFeed", "step", "(I)I"⟩
abbrev b_X3_readEntry : ByteArray := prog_5_method_4_code
def y_X3_readEntry : MethodName := ⟨"ChangeFeed$Pipeline", "readEntry", "()Z"⟩
abbrev b_X3_isToBeEmitted : ByteArray := prog_5_method_10_code
def y_X3_isToBeEmitted : MethodName := ⟨"ChangeFeed$Pipeline", "isToBeEmitted", "()Z"⟩
abbrev b_X6_isItsHigh : ByteArray := prog_3_method_7_code
def y_X6_isItsHigh : MethodName := ⟨"ChangeFeed$ChunkWork", "isItsHigh", "(I)Z"⟩
abbrev b_X3_readEvent : ByteArray := prog_5_method_11_code
def y_X3_readEvent : MethodName := ⟨"ChangeFeed$Pipeline", "readEvent", "()V"⟩
abbrev b_X3_emit : ByteArray := prog_5_method_14_code
def y_X3_emit : MethodName := ⟨"ChangeFeed$Pipeline", "emit", "()V"⟩
abbrev b_X3_sendQueued : ByteArray := prog_5_method_15_code
def y_X3_sendQueued : MethodName := ⟨"ChangeFeed$Pipeline", "sendQueued", "(I)V"⟩
abbrev b_X2_send : ByteArray := prog_2_method_5_code
def y_X2_send : MethodName := ⟨"ChangeFeed$Channel", "send", "(III)V"⟩
abbrev b_X2_append : ByteArray := prog_2_method_8_code
def y_X2_append : MethodName := ⟨"ChangeFeed$Channel", "append", "(IIII)Z"⟩
abbrev b_X3_strikeKeysOf : ByteArray := prog_5_method_12_code
def y_X3_strikeKeysOf : MethodName := ⟨"ChangeFeed$Pipeline", "strikeKeysOf", "(I)V"⟩
abbrev b_X6_isLowBefore : ByteArray := prog_3_method_6_code
def y_X6_isLowBefore : MethodName := ⟨"ChangeFeed$ChunkWork", "isLowBefore", "(I)Z"⟩
abbrev b_X5_isChangeOf : ByteArray := prog_4_method_3_code
def y_X5_isChangeOf : MethodName := ⟨"ChangeFeed$Log", "isChangeOf", "(II)Z"⟩
abbrev b_X3_bearChunk : ByteArray := prog_5_method_13_code
def y_X3_bearChunk : MethodName := ⟨"ChangeFeed$Pipeline", "bearChunk", "()V"⟩
abbrev b_X6_rowToBear : ByteArray := prog_3_method_8_code
def y_X6_rowToBear : MethodName := ⟨"ChangeFeed$ChunkWork", "rowToBear", "(I)J"⟩
abbrev b_X0_waiting : ByteArray := prog_1_method_11_code
def y_X0_waiting : MethodName := ⟨"ChangeFeed", "waiting", "()I"⟩
abbrev b_X0_tick : ByteArray := prog_1_method_12_code
def y_X0_tick : MethodName := ⟨"ChangeFeed", "tick", "(I)I"⟩
abbrev b_X3_passTime : ByteArray := prog_5_method_5_code
def y_X3_passTime : MethodName := ⟨"ChangeFeed$Pipeline", "passTime", "()I"⟩
abbrev b_X0_deliver : ByteArray := prog_1_method_13_code
def y_X0_deliver : MethodName := ⟨"ChangeFeed", "deliver", "(I)Z"⟩
abbrev b_X2_holds : ByteArray := prog_2_method_3_code
def y_X2_holds : MethodName := ⟨"ChangeFeed$Channel", "holds", "(I)Z"⟩
abbrev b_X2_word : ByteArray := prog_2_method_4_code
def y_X2_word : MethodName := ⟨"ChangeFeed$Channel", "word", "(II)I"⟩
abbrev b_X2_takeOut : ByteArray := prog_2_method_7_code
def y_X2_takeOut : MethodName := ⟨"ChangeFeed$Channel", "takeOut", "(I)V"⟩
abbrev b_X3_dropUpTo : ByteArray := prog_5_method_6_code
def y_X3_dropUpTo : MethodName := ⟨"ChangeFeed$Pipeline", "dropUpTo", "(I)V"⟩
abbrev b_X0_sendAck : ByteArray := prog_1_method_22_code
def y_X0_sendAck : MethodName := ⟨"ChangeFeed", "sendAck", "()V"⟩
abbrev b_X4_offer : ByteArray := prog_6_method_3_code
def y_X4_offer : MethodName := ⟨"ChangeFeed$Sink", "offer", "(II)V"⟩
abbrev b_X0_alter : ByteArray := prog_1_method_14_code
def y_X0_alter : MethodName := ⟨"ChangeFeed", "alter", "(IZ)Z"⟩
abbrev b_X2_repeat : ByteArray := prog_2_method_6_code
def y_X2_repeat : MethodName := ⟨"ChangeFeed$Channel", "repeat", "(I)Z"⟩
abbrev b_X0_flight : ByteArray := prog_1_method_15_code
def y_X0_flight : MethodName := ⟨"ChangeFeed", "flight", "()I"⟩
abbrev b_X0_packet : ByteArray := prog_1_method_16_code
def y_X0_packet : MethodName := ⟨"ChangeFeed", "packet", "(II)I"⟩
abbrev b_X0_apply : ByteArray := prog_1_method_17_code
def y_X0_apply : MethodName := ⟨"ChangeFeed", "apply", "()Z"⟩
abbrev b_X4_storeStaged : ByteArray := prog_6_method_4_code
def y_X4_storeStaged : MethodName := ⟨"ChangeFeed$Sink", "storeStaged", "([J)Z"⟩
abbrev b_X4_storeChunk : ByteArray := prog_6_method_8_code
def y_X4_storeChunk : MethodName := ⟨"ChangeFeed$Sink", "storeChunk", "([JI)V"⟩
abbrev b_X4_storeRow : ByteArray := prog_6_method_10_code
def y_X4_storeRow : MethodName := ⟨"ChangeFeed$Sink", "storeRow", "(IJ)V"⟩
abbrev b_X0_amountOf : ByteArray := prog_1_method_29_code
def y_X0_amountOf : MethodName := ⟨"ChangeFeed", "amountOf", "(J)I"⟩
abbrev b_X4_storeChanges : ByteArray := prog_6_method_9_code
def y_X4_storeChanges : MethodName := ⟨"ChangeFeed$Sink", "storeChanges", "(I)V"⟩
abbrev b_X0_stored : ByteArray := prog_1_method_18_code
def y_X0_stored : MethodName := ⟨"ChangeFeed", "stored", "(I)J"⟩
abbrev b_X0_view : ByteArray := prog_1_method_19_code
def y_X0_view : MethodName := ⟨"ChangeFeed", "view", "(IZ)J"⟩
abbrev b_X4_sumOf : ByteArray := prog_6_method_6_code
def y_X4_sumOf : MethodName := ⟨"ChangeFeed$Sink", "sumOf", "(I)J"⟩
abbrev b_X4_isOfGroup : ByteArray := prog_6_method_7_code
def y_X4_isOfGroup : MethodName := ⟨"ChangeFeed$Sink", "isOfGroup", "(II)Z"⟩
abbrev b_X0_groupOf : ByteArray := prog_1_method_28_code
def y_X0_groupOf : MethodName := ⟨"ChangeFeed", "groupOf", "(J)I"⟩
abbrev b_X4_countOf : ByteArray := prog_6_method_5_code
def y_X4_countOf : MethodName := ⟨"ChangeFeed$Sink", "countOf", "(I)I"⟩
abbrev b_X0_position : ByteArray := prog_1_method_20_code
def y_X0_position : MethodName := ⟨"ChangeFeed", "position", "()I"⟩
abbrev b_X0_progress : ByteArray := prog_1_method_21_code
def y_X0_progress : MethodName := ⟨"ChangeFeed", "progress", "()I"⟩
abbrev b_L0_cell : ByteArray := method_2_code
def y_L0_cell : MethodName := ⟨"ChangeFeedLaw", "cell", "([II)I"⟩
abbrev b_M0_init : ByteArray := prog_9_method_1_code
def y_M0_init : MethodName := ⟨"ChangeFeedModel", "<init>", "(IIII)V"⟩
abbrev b_M0_stored : ByteArray := prog_9_method_11_code
def y_M0_stored : MethodName := ⟨"ChangeFeedModel", "stored", "(I)J"⟩
abbrev b_M0_isKey : ByteArray := prog_9_method_3_code
def y_M0_isKey : MethodName := ⟨"ChangeFeedModel", "isKey", "(I)Z"⟩
abbrev b_M0_speaks : ByteArray := prog_9_method_9_code
def y_M0_speaks : MethodName := ⟨"ChangeFeedModel", "speaks", "(II)Z"⟩
abbrev b_M0_lastBy : ByteArray := prog_9_method_4_code
def y_M0_lastBy : MethodName := ⟨"ChangeFeedModel", "lastBy", "(III)I"⟩
abbrev b_M0_struck : ByteArray := prog_9_method_7_code
def y_M0_struck : MethodName := ⟨"ChangeFeedModel", "struck", "(III)Z"⟩
abbrev b_M0_table : ByteArray := prog_9_method_6_code
def y_M0_table : MethodName := ⟨"ChangeFeedModel", "table", "(II)J"⟩
abbrev b_M0_made : ByteArray := prog_9_method_5_code
def y_M0_made : MethodName := ⟨"ChangeFeedModel", "made", "(I)J"⟩
abbrev b_M0_rowOf : ByteArray := prog_9_method_2_code
def y_M0_rowOf : MethodName := ⟨"ChangeFeedModel", "rowOf", "(II)J"⟩
abbrev b_M0_says : ByteArray := prog_9_method_10_code
def y_M0_says : MethodName := ⟨"ChangeFeedModel", "says", "(II)J"⟩
abbrev b_M0_kept : ByteArray := prog_9_method_8_code
def y_M0_kept : MethodName := ⟨"ChangeFeedModel", "kept", "(J)J"⟩
abbrev b_M0_view : ByteArray := prog_9_method_12_code
def y_M0_view : MethodName := ⟨"ChangeFeedModel", "view", "(IZ)J"⟩
abbrev b_M0_position : ByteArray := prog_9_method_13_code
def y_M0_position : MethodName := ⟨"ChangeFeedModel", "position", "()I"⟩
abbrev b_M0_progress : ByteArray := prog_9_method_14_code
def y_M0_progress : MethodName := ⟨"ChangeFeedModel", "progress", "()I"⟩
abbrev b_M0_begin : ByteArray := prog_9_method_19_code
def y_M0_begin : MethodName := ⟨"ChangeFeedModel", "begin", "()I"⟩
abbrev b_M0_room : ByteArray := prog_9_method_16_code
def y_M0_room : MethodName := ⟨"ChangeFeedModel", "room", "(II)Z"⟩
abbrev b_M0_lock : ByteArray := prog_9_method_20_code
def y_M0_lock : MethodName := ⟨"ChangeFeedModel", "lock", "(II)I"⟩
abbrev b_M0_isOpen : ByteArray := prog_9_method_15_code
def y_M0_isOpen : MethodName := ⟨"ChangeFeedModel", "isOpen", "(I)Z"⟩
abbrev b_M0_lockedFor : ByteArray := prog_9_method_18_code
def y_M0_lockedFor : MethodName := ⟨"ChangeFeedModel", "lockedFor", "(II)Z"⟩
abbrev b_M0_put : ByteArray := prog_9_method_21_code
def y_M0_put : MethodName := ⟨"ChangeFeedModel", "put", "(IIII)I"⟩
abbrev b_M0_write : ByteArray := prog_9_method_17_code
def y_M0_write : MethodName := ⟨"ChangeFeedModel", "write", "(III)I"⟩
abbrev b_M0_remove : ByteArray := prog_9_method_22_code
def y_M0_remove : MethodName := ⟨"ChangeFeedModel", "remove", "(II)I"⟩
abbrev b_M0_row : ByteArray := prog_9_method_24_code
def y_M0_row : MethodName := ⟨"ChangeFeedModel", "row", "(II)J"⟩
abbrev b_M0_end : ByteArray := prog_9_method_23_code
def y_M0_end : MethodName := ⟨"ChangeFeedModel", "end", "(IZ)I"⟩
abbrev b_M0_crash : ByteArray := prog_9_method_25_code
def y_M0_crash : MethodName := ⟨"ChangeFeedModel", "crash", "(I)Z"⟩
abbrev b_M0_snapshot : ByteArray := prog_9_method_26_code
def y_M0_snapshot : MethodName := ⟨"ChangeFeedModel", "snapshot", "()I"⟩
abbrev b_M0_step : ByteArray := prog_9_method_27_code
def y_M0_step : MethodName := ⟨"ChangeFeedModel", "step", "(I)I"⟩
abbrev b_M0_emit : ByteArray := prog_9_method_28_code
def y_M0_emit : MethodName := ⟨"ChangeFeedModel", "emit", "(I)V"⟩
abbrev b_M0_send : ByteArray := prog_9_method_29_code
def y_M0_send : MethodName := ⟨"ChangeFeedModel", "send", "(I)V"⟩
abbrev b_M0_add : ByteArray := prog_9_method_32_code
def y_M0_add : MethodName := ⟨"ChangeFeedModel", "add", "(IIII)V"⟩
abbrev b_M0_waiting : ByteArray := prog_9_method_30_code
def y_M0_waiting : MethodName := ⟨"ChangeFeedModel", "waiting", "()I"⟩
abbrev b_M0_tick : ByteArray := prog_9_method_31_code
def y_M0_tick : MethodName := ⟨"ChangeFeedModel", "tick", "(I)I"⟩
abbrev b_M0_deliver : ByteArray := prog_9_method_35_code
def y_M0_deliver : MethodName := ⟨"ChangeFeedModel", "deliver", "(I)Z"⟩
abbrev b_M0_take : ByteArray := prog_9_method_34_code
def y_M0_take : MethodName := ⟨"ChangeFeedModel", "take", "(I)V"⟩
abbrev b_M0_leave : ByteArray := prog_9_method_36_code
def y_M0_leave : MethodName := ⟨"ChangeFeedModel", "leave", "(I)V"⟩
abbrev b_M0_acknowledge : ByteArray := prog_9_method_33_code
def y_M0_acknowledge : MethodName := ⟨"ChangeFeedModel", "acknowledge", "()V"⟩
abbrev b_M0_alter : ByteArray := prog_9_method_37_code
def y_M0_alter : MethodName := ⟨"ChangeFeedModel", "alter", "(IZ)Z"⟩
abbrev b_M0_flight : ByteArray := prog_9_method_38_code
def y_M0_flight : MethodName := ⟨"ChangeFeedModel", "flight", "()I"⟩
abbrev b_M0_packet : ByteArray := prog_9_method_39_code
def y_M0_packet : MethodName := ⟨"ChangeFeedModel", "packet", "(II)I"⟩
abbrev b_M0_apply : ByteArray := prog_9_method_40_code
def y_M0_apply : MethodName := ⟨"ChangeFeedModel", "apply", "()Z"⟩
end
