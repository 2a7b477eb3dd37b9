/-! THE MODEL: a line read -/
def RB (σ0 σ : St) (x : Nat) (f : Nat → Int) (n : Nat) (L : List (Nat → Nat)) (g : Nat → Nat) (c t a0 a1 a2 i : Nat) : Prop := Fm SRd TRd σ0 σ ∧ SHx σ x f n ∧ σ.1 105 51 = (i : Int) ∧ TLk σ L g c t a0 a1 a2
theorem RB.mv {σ0 σ τ : St} {x n : Nat} {f : Nat → Int} {L : List (Nat → Nat)} {g : Nat → Nat} {c t a0 a1 a2 i i' : Nat} (h : RB σ0 σ x f n L g c t a0 a1 a2 i) (hF : Fm NoS T51 σ τ) (hr : τ.1 105 51 = (i' : Int)) : RB σ0 τ x f n L g c t a0 a1 a2 i' := ⟨h.1.tr hF.rd, h.2.1.fm hF.rd, hr, h.2.2.2.fm hF⟩
theorem RB.ar {σ0 σ : St} {x n : Nat} {f : Nat → Int} {L : List (Nat → Nat)} {g : Nat → Nat} {c t a0 a1 a2 i k j c' t' b0 b1 b2 : Nat} {v : Int} (h : RB σ0 σ x f n L g c t a0 a1 a2 i) (hk : SRd k) (hT : TLk (sI σ k j v) L g c' t' b0 b1 b2) : RB σ0 (sI σ k j v) x f n L g c' t' b0 b1 b2 i := ⟨h.1.a (fun e => by unfold SRd at hk; omega) hk, h.2.1.fm (Fm.rf.a (fun e => by unfold SRd at hk; omega) hk), (rI_k (fun e => by unfold SRd at hk; omega)).trans h.2.2.1, hT⟩
set_option maxHeartbeats 4000000 in
set_option maxRecDepth 100000 in
theorem c_X10_readsLine {κ : Kp} (hI : Ij κ) (l : Launch) (σ : St) {w : Wv} (hM : MW σ w) {x n i t : Nat} {f : Nat → Int} {L : List (Nat → Nat)} {r : Rd} (hS : SHx σ x f n) (hr : σ.1 105 51 = (i : Int)) (hT : TLk σ L (rp r) 0 0 0 0 0) (hI0 : TI w L r) (hA : At w f n r i) (hr3 : rst r = 3 ∧ rcol r = 0 ∧ rtab r = t) (ht : t < 5) {zt : Int} (hzt : zt = (t : Int)) : CtI κ l 3 yX10_readsLine cX10_readsLine 2 .boolean [.ref (κ.2.1 105), .int (iZ zt)] σ (fun z σ' => Fm SRd TRd σ σ' ∧ ((z = 0 ∧ ∃ j : Nat, FT w f n j ∧ σ'.1 105 51 = (j : Int) ∧ j ≤ n) ∨ (z = 1 ∧ ∃ (r1 : Rd) (i1 : Nat) (L1 : List (Nat → Nat)), σ'.1 105 51 = (i1 : Int) ∧ i ≤ i1 ∧ TLk σ' L1 (rp (endR r1)) 0 0 0 0 0 ∧ TI w L1 (endR r1) ∧ ES w f n t r1 i1 ∧ rit r1 = rit r))) := by
  refine Ct.ofG (own := RX10) hI (by decide +kernel) rfl (Nat.le_of_ble_eq_true rfl) rfl ?_
  intro M C hMl
  have hB0 : RB σ σ x f n L (rp r) 0 0 0 0 0 i := ⟨Fm.rf, hS, hr, hT⟩
  have hLn0 : Ln w f n r t 0 (fun _ => 0) r i := ⟨hA, ⟨hr3.2.2, hr3.2.1, rfl⟩, rfl, fun _ _ _ _ => rfl, fun q hq => absurd hq (Nat.not_lt_zero q)⟩
  have hl16a := hI0.1 t ht
  have hn160 := hS.2.2.1
  have hin := hA.1
  refine g_aload_n C dX10_readsLine_0 rfl ?_
  refine gf_X10_13 C dX10_readsLine_1 rfl ?_
  refine g_iload_n C dX10_readsLine_4 rfl ?_
  refine g_iaz (n := t) (N := 5) (v := (wl w t : Int)) C dX10_readsLine_5 rfl rfl (by omega) (by omega) (by decide) ((hM.1 t ht).1) ?_
  refine g_aload_n C dX10_readsLine_6 rfl ?_
  refine gf_X10_132 C dX10_readsLine_7 rfl ?_
  refine g_iload_n C dX10_readsLine_10 rfl ?_
  refine g_pc (pc' := 11) rfl ?_
  refine g_iaz (n := t) (N := 5) (v := (rp r t : Int)) C dX10_readsLine_11 rfl rfl (by omega) (by omega) (by decide) (hT.2.2.1 t ht) ?_
  refine g_iadd C dX10_readsLine_12 ?_
  refine g_bipush (z := 16) C dX10_readsLine_13 rfl ?_
  refine g_icmp_ne (tgt := 20) C dX10_readsLine_15 (by decide) (by unfold R32; omega) (fun h1 => ?_) (fun h1 => ?_)
  · have hl16 : wl w t + rp r t < 16 := by omega
    have hl80 := hI0.lt80 ht hl16
    refine g_aload_n C dX10_readsLine_20 rfl ?_
    refine gf_X10_120 C dX10_readsLine_21 rfl ?_
    refine g_aload_n C dX10_readsLine_24 rfl ?_
    refine gf_X10_348 (z := (L.length : Int)) C dX10_readsLine_25 rfl hB0.2.2.2.1 ?_
    refine g_pc (pc' := 28) rfl ?_
    refine g_iload_n C dX10_readsLine_28 rfl ?_
    refine g_iast (n := L.length) (N := 80) C dX10_readsLine_29 rfl rfl (by omega) (by omega) (by decide) ?_
    refine g_aload_n C dX10_readsLine_30 rfl ?_
    refine gf_X10_123 C dX10_readsLine_31 rfl ?_
    refine g_aload_n C dX10_readsLine_34 rfl ?_
    refine gf_X10_348 (z := (L.length : Int)) C dX10_readsLine_35 rfl ((rI_k (by decide)).trans hB0.2.2.2.1) ?_
    refine g_aload_n C dX10_readsLine_38 rfl ?_
    have hB1 := hB0.ar (k := 152) (j := L.length) (v := zt) (by unfold SRd; omega) (hB0.2.2.2.p0 hzt)
    refine gc_X10_351 C dX10_readsLine_39 rfl (c_X10_readsValue hI (Ml M) (sI σ 152 L.length zt) hB1.2.1 hB1.2.2.1 hA.1) (by decide) (Nat.le_of_ble_eq_true rfl) (fun z1 s1 ⟨i1, hv1, hrv1, hG1⟩ => ?_)
    have hB2 := hB1.mv hG1 hrv1
    have hle1 := hv1.le hA.1
    refine g_pc (pc' := 42) rfl ?_
    refine g_iast (n := L.length) (N := 80) C dX10_readsLine_42 rfl rfl (by omega) (by omega) (by decide) ?_
    refine g_aload_n C dX10_readsLine_43 rfl ?_
    refine gf_X10_123 C dX10_readsLine_44 rfl ?_
    refine g_aload_n C dX10_readsLine_47 rfl ?_
    refine gf_X10_348 (z := (L.length : Int)) C dX10_readsLine_48 rfl ((rI_k (by decide)).trans hB2.2.2.2.1) ?_
    refine g_iaz (n := L.length) (N := 80) (v := z1) C dX10_readsLine_51 rfl rfl (by omega) (by omega) (by decide) rI_s ?_
    refine g_if_lt (tgt := 64) C dX10_readsLine_52 (by decide) (by unfold R32; omega) (fun h2 => ?_) (fun h2 => ?_)
    · refine g_iconst (z := 0) C dX10_readsLine_64 rfl ?_
      refine g_pc (pc' := 65) rfl ?_
      exact g_zreturn C dX10_readsLine_65 (by omega) ⟨hB2.1.a (by decide) (by unfold SRd; omega), Or.inl ⟨rfl, _, hLn0.bad hr3.1 (Or.inl (hv1.neg (by omega)).1), (rI_k (by decide)).trans (by rw [hB2.2.2.1, (hv1.neg (by omega)).2]), by omega⟩⟩
    · obtain ⟨r1, hLn1, hvl1, hnum1⟩ := hLn0.val hr3.1 hl16 hv1 (by omega)
      have hB3 := hB2.ar (k := 153) (j := L.length) (v := z1) (by unfold SRd; omega) (hB2.2.2.2.p1 (a0 := rnum r1) (by omega))
      refine g_aload_n C dX10_readsLine_55 rfl ?_
      refine g_bipush (z := 44) C dX10_readsLine_56 rfl ?_
      refine gc_X10_354 C dX10_readsLine_58 rfl (c_X10_reads hI (Ml M) (sI s1 153 L.length z1) hB3.2.1 hB3.2.2.1 hle1.2.1 (c := 44) (by unfold R32; omega)) (by decide) (Nat.le_of_ble_eq_true rfl) (fun z s2 ⟨hz, hF2, hr2a, hr2b⟩ => ?_)
      subst z
      refine g_ifb_ne (tgt := 66) C dX10_readsLine_61 (by decide) (fun h3 => ?_) (fun h3 => ?_)
      · have hcm1 : i1 < n ∧ f i1 = 44 := by assumption
        have hB4 := hB3.mv hF2 (hr2a hcm1)
        obtain ⟨r2, hLn2, hr23⟩ := hLn1.comma hvl1 (by decide) hcm1
        refine g_aload_n C dX10_readsLine_66 rfl ?_
        refine gf_X10_126 C dX10_readsLine_67 rfl ?_
        refine g_aload_n C dX10_readsLine_70 rfl ?_
        refine g_pc (pc' := 71) rfl ?_
        refine gf_X10_348 (z := (L.length : Int)) C dX10_readsLine_71 rfl hB4.2.2.2.1 ?_
        refine g_aload_n C dX10_readsLine_74 rfl ?_
        refine gc_X10_351 C dX10_readsLine_75 rfl (c_X10_readsValue hI (Ml M) s2 hB4.2.1 hB4.2.2.1 (show i1 + 1 ≤ n by omega)) (by decide) (Nat.le_of_ble_eq_true rfl) (fun z2 s3 ⟨i2, hv2, hrv2, hG2⟩ => ?_)
        have hB5 := hB4.mv hG2 hrv2
        have hle2 := hv2.le (show i1 + 1 ≤ n by omega)
        refine g_iast (n := L.length) (N := 80) C dX10_readsLine_78 rfl rfl (by omega) (by omega) (by decide) ?_
        refine g_aload_n C dX10_readsLine_79 rfl ?_
        refine gf_X10_126 C dX10_readsLine_80 rfl ?_
        refine g_aload_n C dX10_readsLine_83 rfl ?_
        refine gf_X10_348 (z := (L.length : Int)) C dX10_readsLine_84 rfl ((rI_k (by decide)).trans hB5.2.2.2.1) ?_
        refine g_pc (pc' := 87) rfl ?_
        refine g_iaz (n := L.length) (N := 80) (v := z2) C dX10_readsLine_87 rfl rfl (by omega) (by omega) (by decide) rI_s ?_
        refine g_if_lt (tgt := 100) C dX10_readsLine_88 (by decide) (by unfold R32; omega) (fun h4 => ?_) (fun h4 => ?_)
        · refine g_iconst (z := 0) C dX10_readsLine_100 rfl ?_
          exact g_zreturn C dX10_readsLine_101 (by omega) ⟨hB5.1.a (by decide) (by unfold SRd; omega), Or.inl ⟨rfl, _, hLn2.bad hr23 (Or.inl (hv2.neg (by omega)).1), (rI_k (by decide)).trans (by rw [hB5.2.2.1, (hv2.neg (by omega)).2]), by omega⟩⟩
        · obtain ⟨r3, hLn3, hvl3, hnum3⟩ := hLn2.val hr23 hl16 hv2 (by omega)
          have hB6 := hB5.ar (k := 154) (j := L.length) (v := z2) (by unfold SRd; omega) (hB5.2.2.2.p2 (a1 := rnum r3) (by omega))
          refine g_aload_n C dX10_readsLine_91 rfl ?_
          refine g_bipush (z := 44) C dX10_readsLine_92 rfl ?_
          refine gc_X10_354 C dX10_readsLine_94 rfl (c_X10_reads hI (Ml M) (sI s3 154 L.length z2) hB6.2.1 hB6.2.2.1 hle2.2.1 (c := 44) (by unfold R32; omega)) (by decide) (Nat.le_of_ble_eq_true rfl) (fun z s4 ⟨hz, hF4, hr4a, hr4b⟩ => ?_)
          subst z
          refine g_ifb_ne (tgt := 102) C dX10_readsLine_97 (by decide) (fun h5 => ?_) (fun h5 => ?_)
          · have hcm3 : i2 < n ∧ f i2 = 44 := by assumption
            have hB7 := hB6.mv hF4 (hr4a hcm3)
            obtain ⟨r4, hLn4, hr43⟩ := hLn3.comma hvl3 (by decide) hcm3
            refine g_pc (pc' := 102) rfl ?_
            refine g_aload_n C dX10_readsLine_102 rfl ?_
            refine gf_X10_129 C dX10_readsLine_103 rfl ?_
            refine g_aload_n C dX10_readsLine_106 rfl ?_
            refine gf_X10_348 (z := (L.length : Int)) C dX10_readsLine_107 rfl hB7.2.2.2.1 ?_
            refine g_aload_n C dX10_readsLine_110 rfl ?_
            refine gc_X10_351 C dX10_readsLine_111 rfl (c_X10_readsValue hI (Ml M) s4 hB7.2.1 hB7.2.2.1 (show i2 + 1 ≤ n by omega)) (by decide) (Nat.le_of_ble_eq_true rfl) (fun z3 s5 ⟨i3, hv3, hrv3, hG3⟩ => ?_)
            have hB8 := hB7.mv hG3 hrv3
            have hle3 := hv3.le (show i2 + 1 ≤ n by omega)
            refine g_iast (n := L.length) (N := 80) C dX10_readsLine_114 rfl rfl (by omega) (by omega) (by decide) ?_
            refine g_aload_n C dX10_readsLine_115 rfl ?_
            refine g_pc (pc' := 116) rfl ?_
            refine gf_X10_129 C dX10_readsLine_116 rfl ?_
            refine g_aload_n C dX10_readsLine_119 rfl ?_
            refine gf_X10_348 (z := (L.length : Int)) C dX10_readsLine_120 rfl ((rI_k (by decide)).trans hB8.2.2.2.1) ?_
            refine g_iaz (n := L.length) (N := 80) (v := z3) C dX10_readsLine_123 rfl rfl (by omega) (by omega) (by decide) rI_s ?_
            refine g_if_ge (tgt := 129) C dX10_readsLine_124 (by decide) (by unfold R32; omega) (fun h6 => ?_) (fun h6 => ?_)
            · obtain ⟨r5, hLn5, hvl5, hnum5⟩ := hLn4.val hr43 hl16 hv3 (by omega)
              have hB9 := hB8.ar (k := 155) (j := L.length) (v := z3) (by unfold SRd; omega) (hB8.2.2.2.p3 (a2 := rnum r5) (by omega))
              refine g_aload_n C dX10_readsLine_129 rfl ?_
              refine g_dup C dX10_readsLine_130 rfl ?_
              refine gf_X10_348 (z := (L.length : Int)) C dX10_readsLine_131 rfl ((rI_k (by decide)).trans hB8.2.2.2.1) ?_
              refine g_pc (pc' := 134) rfl ?_
              refine g_iconst (z := 1) C dX10_readsLine_134 rfl ?_
              refine g_iadd C dX10_readsLine_135 ?_
              refine gp_X10_348 C dX10_readsLine_136 rfl ?_
              refine g_aload_n C dX10_readsLine_139 rfl ?_
              refine gf_X10_132 C dX10_readsLine_140 rfl ?_
              refine g_iload_n C dX10_readsLine_143 rfl ?_
              refine g_dup2 C dX10_readsLine_144 rfl rfl ?_
              refine g_iaz (n := t) (N := 5) (v := (rp r t : Int)) C dX10_readsLine_145 rfl rfl (by omega) (by omega) (by decide) ((rI_k (by decide)).trans ((rI_k (by decide)).trans (hB8.2.2.2.2.2.1 t ht))) ?_
              refine g_pc (pc' := 146) rfl ?_
              refine g_iconst (z := 1) C dX10_readsLine_146 rfl ?_
              refine g_iadd C dX10_readsLine_147 ?_
              refine g_iast (n := t) (N := 5) C dX10_readsLine_148 rfl rfl (by omega) (by omega) (by decide) ?_
              refine g_iconst (z := 1) C dX10_readsLine_149 rfl ?_
              exact g_zreturn C dX10_readsLine_150 (by omega) ⟨((hB9.1.t (Or.inr rfl)).a (by decide) (by unfold SRd; omega)), Or.inr ⟨rfl, r5, i3, L ++ [eN t (upA (upA (fun _ => 0) 0 (rnum r1)) 1 (rnum r3)) (rnum r5)], (rI_k (by decide)).trans ((rI_j (by decide)).trans hB9.2.2.1), by omega, hB9.2.2.2.fin rfl rfl rfl rfl (fun u => by show (if u = rtab r5 then rp r5 u + 1 else rp r5 u) = _; rw [hLn5.2.1.1, rp_e hLn5.2.2.1]) (by omega) (by omega), hI0.add hLn5 ht hl16 ⟨by show rnum r1 ≤ 99; omega, by show rnum r3 ≤ 99; omega, by omega⟩, ⟨hLn5.1, hvl5, hLn5.2.1.1, hLn5.2.1.2.1⟩, hLn5.2.1.2.2⟩⟩
            · refine g_iconst (z := 0) C dX10_readsLine_127 rfl ?_
              exact g_zreturn C dX10_readsLine_128 (by omega) ⟨hB8.1.a (by decide) (by unfold SRd; omega), Or.inl ⟨rfl, _, hLn4.bad hr43 (Or.inl (hv3.neg (by omega)).1), (rI_k (by decide)).trans (by rw [hB8.2.2.1, (hv3.neg (by omega)).2]), by omega⟩⟩
          · refine g_iconst (z := 0) C dX10_readsLine_100 rfl ?_
            refine g_pc (pc' := 101) rfl ?_
            exact g_zreturn C dX10_readsLine_101 (by omega) ⟨hB6.1.tr hF4.rd, Or.inl ⟨rfl, i2, hLn3.nocomma hvl3 (by decide) (by assumption), hr4b (by assumption), by omega⟩⟩
      · refine g_iconst (z := 0) C dX10_readsLine_64 rfl ?_
        exact g_zreturn C dX10_readsLine_65 (by omega) ⟨hB3.1.tr hF2.rd, Or.inl ⟨rfl, i1, hLn1.nocomma hvl1 (by decide) (by assumption), hr2b (by assumption), by omega⟩⟩
  · refine g_iconst (z := 0) C dX10_readsLine_18 rfl ?_
    exact g_zreturn C dX10_readsLine_19 (by omega) ⟨Fm.rf, Or.inl ⟨rfl, i, hLn0.bad hr3.1 (Or.inr (by omega)), hr, hA.1⟩⟩
