/-! the start, and the whole of the pure part -/
theorem J_init {K C T : Nat} {le : Int32} {z w : St} (hK : K ≤ 12) (hX : InitX K (nI C) (nI T) le z) (hM : InitM (nI K) (nI C) (nI T) le w) : J K C T le 0 z w := by
  obtain ⟨x0, x1, x2, x3, x4, x5, x6, x7, x8, x9, x10, x11, x12, x13, x14, x15, x16, x17, x18, x19, x20, x21, x22, -, -, -, -, -, -, -, -, -, -, -, -, xr, xs⟩ := hX
  obtain ⟨m0, m1, m2, m3, m4, m5, m6, m7, m8, m9, m10, m11, m12, m13, m14, m15, m16, m17, m18, m19, m20, -, -, -, -, -, -, -, -, -, -, -, -, -, -, -, -, -, mo⟩ := hM
  refine ⟨0, 0, 0, 0, 0, 0, 0, 0, 0, 0, 0, 0, 0, ⟨x0, m0, x5, x6, m1, x14, x7, m2, x15, m3⟩, ⟨⟨x19, m4, x1, m6, x2, m5⟩, ⟨by omega, by omega, by omega⟩, fun j hj => by omega, fun i j hi => by omega, fun k hk => ?_, fun k hk => ?_, fun k hk => ?_, fun j k hj => by omega⟩, fun i hi => by omega, ⟨⟨x8, m16, by omega⟩, fun i hi => by omega, fun i j p p' h1 h2 => by omega, ?_, ⟨?_, Or.inl m8⟩, ?_, ⟨x12, m10, by omega⟩, ⟨x13, m11, by omega⟩⟩, ⟨⟨x3, m18, by omega⟩, ⟨x4, m7, by omega⟩, fun i hi => by omega⟩, ⟨⟨x20, m12, by omega⟩, fun h => by omega, fun h => by omega, fun h => by omega⟩, ⟨⟨m19, by omega, ?_⟩, fun j hj => by omega, fun k hk => ?_, ?_, ⟨?_, Or.inl m20⟩⟩⟩
  · rw [(xr k hk).2.1, mo k (by omega)]; exact ⟨rfl, Or.inl rfl⟩
  · exact (xr k hk).1
  · exact (xr k hk).2.2
  · rw [x9, m17]
  · rw [x10, m8]
  · rw [x11, m9]
  · rw [x17]; rfl
  · exact xs k hk
  · rw [x18]
    show (0 : Int32) = nI (min 0 K)
    rw [Nat.zero_min]
    rfl
  · rw [x16, m20]
theorem pure_sim : PureSim := by
  intro K C T le hK1 hK hC1 hC6 hT1 hT
  refine ⟨J K C T le, ⟨?_, ?_, ?_, ?_, ?_, ?_, ?_, ?_, ?_, ?_, ?_, ?_, ?_, ?_, ?_, ?_, ?_, ?_, ?_, ?_, ?_⟩, fun z w hX hM => J_init hK hX hM⟩
  · exact fun t z w _ h => o_begin h
  · exact fun t z w x1 x2 _ h => o_lock hK x1 x2 h
  · exact fun t z w x1 x2 x3 x4 _ h => o_put hK x1 x2 x3 x4 h
  · exact fun t z w x1 x2 _ h => o_remove hK x1 x2 h
  · exact fun t z w x1 x2 _ h _ => o_end hK x1 x2 h
  · exact fun t z w x1 x2 _ h => o_row hK x1 x2 h
  · exact fun t z w x1 ht h => o_crash hK hC6 ht x1 h
  · exact fun t z w _ h => o_snapshot hK hC6 hC1 h
  · exact fun t z w x1 _ h => o_step hK hC6 hC1 x1 h
  · exact fun t z w _ h => o_waiting h
  · exact fun t z w x1 _ h => o_tick x1 h
  · exact fun t z w x1 _ h => o_deliver x1 h
  · exact fun t z w x1 x2 _ h hb => o_alter x1 x2 hb h
  · exact fun t z w _ h => o_flight h
  · exact fun t z w x1 x2 _ h => o_packet x1 x2 h
  · exact fun t z w _ h => o_apply hK hC6 hC1 h
  · exact fun t z w x1 _ h => o_stored hK x1 h
  · exact fun t z w x1 x2 _ h _ => o_view hK x1 x2 h
  · exact fun t z w _ h => o_position h
  · exact fun t z w _ h => o_progress hK hC6 h
  · exact fun t z w _ h => J_up h
