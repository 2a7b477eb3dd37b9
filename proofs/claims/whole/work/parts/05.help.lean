/-! small rows: reading behind a writing -/
section RD
variable {σ : St} {k j k' j' : Nat}
theorem rI_s {v : Int} : (sI σ k j v).1 k j = v := by simp [sI]
theorem rI_k {v : Int} (h : k' ≠ k) : (sI σ k j v).1 k' j' = σ.1 k' j' := by simp [sI, h]
theorem rI_j {v : Int} (h : j' ≠ j) : (sI σ k j v).1 k j' = σ.1 k j' := by simp [sI, h]
theorem rF_s {v : UInt32} : (sF σ k j v).2.1 k j = v := by simp [sF]
theorem rF_k {v : UInt32} (h : k' ≠ k) : (sF σ k j v).2.1 k' j' = σ.2.1 k' j' := by simp [sF, h]
theorem rF_j {v : UInt32} (h : j' ≠ j) : (sF σ k j v).2.1 k j' = σ.2.1 k j' := by simp [sF, h]
theorem rL_s {v : Int64} : (sL σ k j v).2.2 k j = v := by simp [sL]
theorem rL_k {v : Int64} (h : k' ≠ k) : (sL σ k j v).2.2 k' j' = σ.2.2 k' j' := by simp [sL, h]
theorem rL_j {v : Int64} (h : j' ≠ j) : (sL σ k j v).2.2 k j' = σ.2.2 k j' := by simp [sL, h]
theorem rI_K {v : Int} (h : k' ≠ k) : (sI σ k j v).1 k' = σ.1 k' := by funext q; exact rI_k h
theorem rf_23 (k n : Nat) (h : kd k = 23) : rf k n = k + 1 + 2 * n := by simp [rf, h]
theorem rf_24 (k n : Nat) (h : kd k = 24) : rf k n = 58 + n := by simp [rf, h]
theorem rf_25 (k n : Nat) (h : kd k = 25) : rf k n = 34 + 3 * n := by simp [rf, h]
end RD
section RZ
variable {M : MC} {κ : Kp} {ow : String} {cc : ByteArray} {nL : Nat} {ret : Option FieldType} {d : Nat} {Q : State → Prop} {pc : Nat} {L : List (Nat × Value)} {st : List Value} {σ : St}
theorem g_iaz (C : Cx M κ ow cc nL ret d) {k n N : Nat} {z v : Int} (hd : decode cc pc = .ok (.iaload, 1)) (hk : kd k = 20) (hN : len k = N) (hz : z = (n : Int)) (hn : n < N) (hb : N < 2147483648) (hv : σ.1 k n = v)
    (kk : G M κ nL Q (pc + 1) L (.int (iZ v) :: st) σ) : G M κ nL Q pc L (.int (iZ z) :: .ref (κ.2.1 k) :: st) σ := g_iald C hd hk hN hz hn hb (hv ▸ kk)
theorem g_faz (C : Cx M κ ow cc nL ret d) {k n N : Nat} {z : Int} {v : UInt32} (hd : decode cc pc = .ok (.faload, 1)) (hk : kd k = 21) (hN : len k = N) (hz : z = (n : Int)) (hn : n < N) (hb : N < 2147483648) (hv : σ.2.1 k n = v)
    (kk : G M κ nL Q (pc + 1) L (.float v :: st) σ) : G M κ nL Q pc L (.int (iZ z) :: .ref (κ.2.1 k) :: st) σ := g_fald C hd hk hN hz hn hb (hv ▸ kk)
theorem g_laz (C : Cx M κ ow cc nL ret d) {k n N : Nat} {z : Int} {v : Int64} (hd : decode cc pc = .ok (.laload, 1)) (hk : kd k = 22) (hN : len k = N) (hz : z = (n : Int)) (hn : n < N) (hb : N < 2147483648) (hv : σ.2.2 k n = v)
    (kk : G M κ nL Q (pc + 1) L (.long v :: st) σ) : G M κ nL Q pc L (.int (iZ z) :: .ref (κ.2.1 k) :: st) σ := g_lald C hd hk hN hz hn hb (hv ▸ kk)
theorem g_pc {pc' : Nat} (h : pc = pc') (k : G M κ nL Q pc' L st σ) : G M κ nL Q pc L st σ := h ▸ k
end RZ
