/-! THE MODEL: histograms -/
def HM (k : Nat) : Prop := 119 ≤ k ∧ k ≤ 123
def HT (j : Nat) : Prop := j = 18
def SoC (k : Nat) : Prop := k = 119
theorem Fm.aI {S T : Nat → Prop} {σ τ : St} (h : Fm S T σ τ) {k : Nat} {f : Nat → Int} (hk : k ≠ 105) (hS : S k) : Fm S T σ (aI τ k f) := ⟨fun q h1 h2 => ⟨(aI_ne (fun (e : q = k) => h2 (by rw [e]; exact hS))).trans (h.1 q h1 h2).1, (h.1 q h1 h2).2⟩, fun q hq => (congrFun (aI_ne (fun e => hk e.symm)) q).trans (h.2 q hq)⟩
theorem MW.hm {σ σ' : St} {w : Wv} (h : MW σ w) (g : Fm HM HT σ σ') : MW σ' w := h.fm g (fun k _ _ e => by unfold HM at e; omega) (fun j _ _ e => by unfold HT at e; omega)
theorem Fm.so {σ σ' : St} (g : Fm SoC NoT σ σ') : Fm HM HT σ σ' := g.mono (fun k e => by unfold SoC at e; unfold HM; omega) (fun j e => e.elim)
theorem so_step {q s : St} {c : Nat → Int} {i : Nat} {v : Int} (h : ∀ j, j < i → q.1 119 j = srt c i j) (hv : v = c i) (e : s.1 119 = insA v i (q.1 119)) : ∀ j, j < i + 1 → s.1 119 j = srt c (i + 1) j := by
  intro j hj
  rw [e, hv]
  exact insA_cong h j (by omega)
set_option maxHeartbeats 4000000 in
set_option maxRecDepth 100000 in
theorem c_X10_sorts {κ : Kp} (hI : Ij κ) (l : Launch) (σ : St) {w : Wv} (hM : MW σ w) (hW : OKW w) {p : Nat} {zp : Int} (hp : zp = (p : Int)) (hp14 : p ≤ 14) : CtI κ l 1 yX10_sorts cX10_sorts 6 .int [.ref (κ.2.1 105), .int (iZ zp)] σ (fun z σ' => z = (wl w (p / 3) : Int) ∧ (∀ j, j < wl w (p / 3) → σ'.1 119 j = wsrt w p j) ∧ Fm SoC NoT σ σ') := by
  refine Ct.ofG (own := RX10) hI (by decide +kernel) rfl (Nat.le_of_ble_eq_true rfl) rfl ?_
  intro M C hMl
  have hto := hW.1 (p / 3) (by omega)
  refine g_aload_n C dX10_sorts_0 rfl ?_
  refine gf_X10_13 C dX10_sorts_1 rfl ?_
  refine g_iload_n C dX10_sorts_4 rfl ?_
  refine g_iconst (z := 3) C dX10_sorts_5 rfl ?_
  refine g_idiv C dX10_sorts_6 (by omega) ?_
  refine g_iaz (n := (p / 3)) (N := 5) (v := (wl w (p / 3) : Int)) C dX10_sorts_7 rfl rfl (by omega) (by omega) (by decide) ((hM.1 (p / 3) (by omega)).1) ?_
  refine g_istore_n (L' := [(2, .int (iZ (wl w (p / 3) : Int))), (0, .ref (κ.2.1 105)), (1, .int (iZ zp))]) C dX10_sorts_8 rfl (by decide) rfl ?_
  refine g_pc (pc' := 9) rfl ?_
  refine g_iconst (z := 0) C dX10_sorts_9 rfl ?_
  refine g_istore_n (L' := [(3, .int (iZ 0)), (2, .int (iZ (wl w (p / 3) : Int))), (0, .ref (κ.2.1 105)), (1, .int (iZ zp))]) C dX10_sorts_10 rfl (by decide) rfl ?_
  have lp11 : ∀ (fz9 : Nat) (i : Nat) (x3 : Int) (q : St), ((wl w (p / 3)) - i < fz9) → (x3 = (i : Int)) → (i ≤ (wl w (p / 3))) → (Fm SoC NoT σ q) → (∀ j, j < i → q.1 119 j = srt (wcol w p) i j) → G M κ 6 (En M κ (qI κ (fun z σ' => z = (wl w (p / 3) : Int) ∧ (∀ j, j < wl w (p / 3) → σ'.1 119 j = wsrt w p j) ∧ Fm SoC NoT σ σ'))) 11 [(0, .ref (κ.2.1 105)), (1, .int (iZ zp)), (2, .int (iZ ((wl w (p / 3)) : Int))), (3, .int (iZ x3))] [] q := by
    intro fz9
    induction fz9 with
    | zero => intro i x3 q hm0; exact absurd hm0 (Nat.not_lt_zero _)
    | succ fz9 ih11 =>
      intro i x3 q hm11 hx3 hi hF hs
      have hMq := hM.hm hF.so
      refine g_iload_n C dX10_sorts_11 rfl ?_
      refine g_iload_n C dX10_sorts_12 rfl ?_
      refine g_icmp_ge (tgt := 83) C dX10_sorts_13 (by decide) (by unfold R32; omega) (fun h1 => ?_) (fun h1 => ?_)
      · refine g_iload_n C dX10_sorts_83 rfl ?_
        exact g_ireturn C dX10_sorts_84 ⟨rfl, by rw [show i = wl w (p / 3) by omega] at hs; exact hs, hF⟩
      · refine g_aload_n C dX10_sorts_16 rfl ?_
        refine g_pc (pc' := 17) rfl ?_
        refine g_iload_n C dX10_sorts_17 rfl ?_
        refine g_iload_n C dX10_sorts_18 rfl ?_
        have hvv := (hMq.1 (p / 3) (by omega)).2.2.2 i (by omega) (p % 3) (by omega)
        have hcr := wcol_r hW hp14 i (by omega)
        refine gc_X10_149 C dX10_sorts_19 rfl (c_X10_valueAt hI (Ml M) q (p := p) (i := i) (by omega) (by omega) (by omega) (by omega)) (by decide) (Nat.le_of_ble_eq_true rfl) (fun z σ9 ⟨hz, hσ⟩ => ?_)
        subst σ9
        have hz2 : z = wcol w p i := hz.trans hvv
        subst hz2
        refine g_istore (L' := [(4, .int (iZ (wcol w p i))), (0, .ref (κ.2.1 105)), (1, .int (iZ zp)), (2, .int (iZ ((wl w (p / 3)) : Int))), (3, .int (iZ x3))]) C dX10_sorts_22 (by decide) rfl ?_
        refine g_sig (σ' := (aI q 119 (q.1 119))) aI_self.symm ?_
        refine g_iload_n C dX10_sorts_24 rfl ?_
        refine g_istore (L' := [(5, .int (iZ x3)), (4, .int (iZ (wcol w p i))), (0, .ref (κ.2.1 105)), (1, .int (iZ zp)), (2, .int (iZ ((wl w (p / 3)) : Int))), (3, .int (iZ x3))]) C dX10_sorts_25 (by decide) rfl ?_
        have lp27 : ∀ (fz9 : Nat) (p2 : Nat) (x5 : Int) (g : Nat → Int), (p2 < fz9) → (x5 = (p2 : Int)) → (p2 < 16) → (∀ j, j < p2 → R32 (g j)) → (insA (wcol w p i) p2 g = insA (wcol w p i) i (q.1 119)) → G M κ 6 (En M κ (qI κ (fun z σ' => z = (wl w (p / 3) : Int) ∧ (∀ j, j < wl w (p / 3) → σ'.1 119 j = wsrt w p j) ∧ Fm SoC NoT σ σ'))) 27 [(0, .ref (κ.2.1 105)), (1, .int (iZ zp)), (2, .int (iZ ((wl w (p / 3)) : Int))), (3, .int (iZ x3)), (4, .int (iZ (wcol w p i))), (5, .int (iZ x5))] [] (aI q 119 g) := by
          intro fz9
          induction fz9 with
          | zero => intro p2 x5 g hm0; exact absurd hm0 (Nat.not_lt_zero _)
          | succ fz9 ih27 =>
            intro p2 x5 g hm27 hx5 hp2 hg hI2
            refine g_iload C dX10_sorts_27 rfl ?_
            refine g_if_le (tgt := 68) C dX10_sorts_29 (by decide) (by unfold R32; omega) (fun h2 => ?_) (fun h2 => ?_)
            · refine g_pc (pc' := 68) rfl ?_
              refine g_aload_n C dX10_sorts_68 rfl ?_
              refine gf_X10_40 C dX10_sorts_69 rfl ?_
              refine g_iload C dX10_sorts_72 rfl ?_
              refine g_iload C dX10_sorts_74 rfl ?_
              refine g_iast (n := p2) (N := 16) C dX10_sorts_76 rfl rfl (by omega) (by omega) (by decide) ?_
              rw [sI_aI]
              have hfin : aI q 119 (updI g p2 (wcol w p i)) = aI q 119 (insA (wcol w p i) i (q.1 119)) := by
                rw [← hI2]; rcases Nat.eq_zero_or_pos p2 with u | u; (subst u; rfl); first | (exfalso; omega) | (obtain ⟨p0, rfl⟩ : ∃ p0, p2 = p0 + 1 := ⟨p2 - 1, by omega⟩; rw [Nat.add_sub_cancel] at *; rw [insA, if_neg (by omega)])
              refine g_iinc (q := 3) (v := (x3 + 1)) (L' := [(3, .int (iZ (x3 + 1))), (0, .ref (κ.2.1 105)), (1, .int (iZ zp)), (2, .int (iZ ((wl w (p / 3)) : Int))), (4, .int (iZ (wcol w p i))), (5, .int (iZ x5))]) C dX10_sorts_77 rfl rfl (by decide) rfl ?_
              refine g_goto (tgt := 11) C dX10_sorts_80 (by decide) ?_
              exact g_loc [1, 2, 3, 0] (by rfl) (ih11 (i + 1) (x3 + 1) (aI q 119 (updI g p2 (wcol w p i))) (by omega) (by omega) (by omega) (by rw [hfin]; exact hF.aI (by decide) rfl) (by rw [hfin]; exact so_step hs rfl aI_k))
            · refine g_aload_n C dX10_sorts_32 rfl ?_
              refine g_pc (pc' := 33) rfl ?_
              refine gf_X10_40 C dX10_sorts_33 rfl ?_
              refine g_iload C dX10_sorts_36 rfl ?_
              refine g_iconst (z := 1) C dX10_sorts_38 rfl ?_
              refine g_isub C dX10_sorts_39 ?_
              refine g_iaz (n := (p2 - 1)) (N := 16) (v := (g (p2 - 1))) C dX10_sorts_40 rfl rfl (by omega) (by omega) (by decide) (congrFun aI_k _) ?_
              refine g_iload C dX10_sorts_41 rfl ?_
              refine g_icmp_le (tgt := 68) C dX10_sorts_43 (by decide) ⟨hg _ (by omega), by unfold R32; omega⟩ (fun h3 => ?_) (fun h3 => ?_)
              · refine g_aload_n C dX10_sorts_68 rfl ?_
                refine g_pc (pc' := 69) rfl ?_
                refine gf_X10_40 C dX10_sorts_69 rfl ?_
                refine g_iload C dX10_sorts_72 rfl ?_
                refine g_iload C dX10_sorts_74 rfl ?_
                refine g_iast (n := p2) (N := 16) C dX10_sorts_76 rfl rfl (by omega) (by omega) (by decide) ?_
                rw [sI_aI]
                have hfin : aI q 119 (updI g p2 (wcol w p i)) = aI q 119 (insA (wcol w p i) i (q.1 119)) := by
                  rw [← hI2]; rcases Nat.eq_zero_or_pos p2 with u | u; (subst u; rfl); first | (exfalso; omega) | (obtain ⟨p0, rfl⟩ : ∃ p0, p2 = p0 + 1 := ⟨p2 - 1, by omega⟩; rw [Nat.add_sub_cancel] at *; rw [insA, if_neg (by omega)])
                refine g_iinc (q := 3) (v := (x3 + 1)) (L' := [(3, .int (iZ (x3 + 1))), (0, .ref (κ.2.1 105)), (1, .int (iZ zp)), (2, .int (iZ ((wl w (p / 3)) : Int))), (4, .int (iZ (wcol w p i))), (5, .int (iZ x5))]) C dX10_sorts_77 rfl rfl (by decide) rfl ?_
                refine g_goto (tgt := 11) C dX10_sorts_80 (by decide) ?_
                exact g_loc [1, 2, 3, 0] (by rfl) (ih11 (i + 1) (x3 + 1) (aI q 119 (updI g p2 (wcol w p i))) (by omega) (by omega) (by omega) (by rw [hfin]; exact hF.aI (by decide) rfl) (by rw [hfin]; exact so_step hs rfl aI_k))
              · refine g_aload_n C dX10_sorts_46 rfl ?_
                refine gf_X10_40 C dX10_sorts_47 rfl ?_
                refine g_pc (pc' := 50) rfl ?_
                refine g_iload C dX10_sorts_50 rfl ?_
                refine g_aload_n C dX10_sorts_52 rfl ?_
                refine gf_X10_40 C dX10_sorts_53 rfl ?_
                refine g_iload C dX10_sorts_56 rfl ?_
                refine g_iconst (z := 1) C dX10_sorts_58 rfl ?_
                refine g_isub C dX10_sorts_59 ?_
                refine g_iaz (n := (p2 - 1)) (N := 16) (v := (g (p2 - 1))) C dX10_sorts_60 rfl rfl (by omega) (by omega) (by decide) (congrFun aI_k _) ?_
                refine g_iast (n := p2) (N := 16) C dX10_sorts_61 rfl rfl (by omega) (by omega) (by decide) ?_
                rw [sI_aI]
                have hI3 : insA (wcol w p i) (p2 - 1) (updI g p2 (g (p2 - 1))) = insA (wcol w p i) i (q.1 119) := by
                  rw [← hI2]; obtain ⟨p0, rfl⟩ : ∃ p0, p2 = p0 + 1 := ⟨p2 - 1, by omega⟩; rw [Nat.add_sub_cancel] at *; rw [insA, if_pos (by omega)]
                have hg' : ∀ j, j < p2 - 1 → R32 (updI g p2 (g (p2 - 1)) j) := fun j hj => by rw [updI_n (by omega)]; exact hg j (by omega)
                refine g_pc (pc' := 62) rfl ?_
                refine g_iinc (q := 5) (v := (x5 + (-1))) (L' := [(5, .int (iZ (x5 + (-1)))), (0, .ref (κ.2.1 105)), (1, .int (iZ zp)), (2, .int (iZ ((wl w (p / 3)) : Int))), (3, .int (iZ x3)), (4, .int (iZ (wcol w p i)))]) C dX10_sorts_62 rfl rfl (by decide) rfl ?_
                refine g_goto (tgt := 27) C dX10_sorts_65 (by decide) ?_
                exact g_loc [1, 2, 3, 4, 5, 0] (by rfl) (ih27 (p2 - 1) (x5 + (-1)) (updI g p2 (g (p2 - 1))) (by omega) (by omega) (by omega) hg' hI3)
        exact g_loc [2, 3, 4, 5, 1, 0] (by rfl) (lp27 _ i x3 (q.1 119) (Nat.lt_succ_self _) (by omega) (by omega) (fun j hj => by rw [hs j hj]; have := srt_rng (c := wcol w p) (lo := 0) (hi := 99) (i := i) (fun u hu => wcol_r hW hp14 u (by omega)) j hj; unfold R32; omega) rfl)
  exact g_loc [2, 3, 1, 0] (by rfl) (lp11 _ 0 0 σ (Nat.lt_succ_self _) rfl (Nat.zero_le _) Fm.rf (fun j hj => absurd hj (Nat.not_lt_zero j)))
set_option maxHeartbeats 4000000 in
set_option maxRecDepth 100000 in
theorem c_X10_differentFrom {κ : Kp} (hI : Ij κ) (l : Launch) (σ : St) {a b : Nat} {za zb : Int} (ha : za = (a : Int)) (hb : zb = (b : Int)) (hab : a ≤ b ∧ b ≤ 16) (hs : ∀ j, j < b → R32 (σ.1 119 j)) : CtI κ l 0 yX10_differentFrom cX10_differentFrom 5 .int [.ref (κ.2.1 105), .int (iZ za), .int (iZ zb)] σ (fun z σ' => z = (dif (σ.1 119) a b : Int) ∧ σ' = σ) := by
  refine Ct.ofG (own := RX10) hI (by decide +kernel) rfl (Nat.le_of_ble_eq_true rfl) rfl ?_
  intro M C hMl
  refine g_iconst (z := 0) C dX10_differentFrom_0 rfl ?_
  refine g_istore_n (L' := [(3, .int (iZ 0)), (0, .ref (κ.2.1 105)), (1, .int (iZ za)), (2, .int (iZ zb))]) C dX10_differentFrom_1 rfl (by decide) rfl ?_
  refine g_iload_n C dX10_differentFrom_2 rfl ?_
  refine g_istore (L' := [(4, .int (iZ za)), (3, .int (iZ 0)), (0, .ref (κ.2.1 105)), (1, .int (iZ za)), (2, .int (iZ zb))]) C dX10_differentFrom_3 (by decide) rfl ?_
  have lp5 : ∀ (fz9 : Nat) (i : Nat) (x3 : Int) (x4 : Int), (b - i < fz9) → (x3 = (dif (σ.1 119) a i : Int)) → (x4 = (i : Int)) → (a ≤ i ∧ i ≤ b) → G M κ 5 (En M κ (qI κ (fun z σ' => z = (dif (σ.1 119) a b : Int) ∧ σ' = σ))) 5 [(0, .ref (κ.2.1 105)), (1, .int (iZ za)), (2, .int (iZ zb)), (3, .int (iZ x3)), (4, .int (iZ x4))] [] σ := by
    intro fz9
    induction fz9 with
    | zero => intro i x3 x4 hm0; exact absurd hm0 (Nat.not_lt_zero _)
    | succ fz9 ih5 =>
      intro i x3 x4 hm5 hx3 hx4 hi
      have hdl := dif_le (σ.1 119) a i
      have hd1 : dif (σ.1 119) a (i + 1) = dif (σ.1 119) a i + (if a ≤ i ∧ (i = a ∨ σ.1 119 i ≠ σ.1 119 (i - 1)) then 1 else 0) := rfl
      refine g_iload C dX10_differentFrom_5 rfl ?_
      refine g_iload_n C dX10_differentFrom_7 rfl ?_
      refine g_icmp_ge (tgt := 50) C dX10_differentFrom_8 (by decide) (by unfold R32; omega) (fun h1 => ?_) (fun h1 => ?_)
      · refine g_pc (pc' := 50) rfl ?_
        refine g_iload_n C dX10_differentFrom_50 rfl ?_
        exact g_ireturn C dX10_differentFrom_51 ⟨by rw [hx3, show i = b by omega], rfl⟩
      · refine g_iload_n C dX10_differentFrom_11 rfl ?_
        refine g_iload C dX10_differentFrom_12 rfl ?_
        refine g_iload_n C dX10_differentFrom_14 rfl ?_
        refine g_icmp_eq (tgt := 37) C dX10_differentFrom_15 (by decide) (by unfold R32; omega) (fun h2 => ?_) (fun h2 => ?_)
        · refine g_iconst (z := 1) C dX10_differentFrom_37 rfl ?_
          refine g_goto (tgt := 42) C dX10_differentFrom_38 (by decide) ?_
          refine g_pc (pc' := 42) rfl ?_
          refine g_iadd C dX10_differentFrom_42 ?_
          refine g_istore_n (L' := [(3, .int (iZ (x3 + 1))), (0, .ref (κ.2.1 105)), (1, .int (iZ za)), (2, .int (iZ zb)), (4, .int (iZ x4))]) C dX10_differentFrom_43 rfl (by decide) rfl ?_
          refine g_iinc (q := 4) (v := (x4 + 1)) (L' := [(4, .int (iZ (x4 + 1))), (3, .int (iZ (x3 + 1))), (0, .ref (κ.2.1 105)), (1, .int (iZ za)), (2, .int (iZ zb))]) C dX10_differentFrom_44 rfl rfl (by decide) rfl ?_
          refine g_goto (tgt := 5) C dX10_differentFrom_47 (by decide) ?_
          exact g_loc [2, 3, 4, 1, 0] (by rfl) (ih5 (i + 1) (x3 + 1) (x4 + 1) (by omega) (by rw [hd1]; (first | rw [if_pos (by omega)] | rw [if_neg (by omega)]); omega) (by omega) (by omega))
        · refine g_aload_n C dX10_differentFrom_18 rfl ?_
          refine gf_X10_40 C dX10_differentFrom_19 rfl ?_
          refine g_iload C dX10_differentFrom_22 rfl ?_
          refine g_iaz (n := i) (N := 16) (v := (σ.1 119 i)) C dX10_differentFrom_24 rfl rfl (by omega) (by omega) (by decide) rfl ?_
          refine g_pc (pc' := 25) rfl ?_
          refine g_aload_n C dX10_differentFrom_25 rfl ?_
          refine gf_X10_40 C dX10_differentFrom_26 rfl ?_
          refine g_iload C dX10_differentFrom_29 rfl ?_
          refine g_iconst (z := 1) C dX10_differentFrom_31 rfl ?_
          refine g_isub C dX10_differentFrom_32 ?_
          refine g_iaz (n := (i - 1)) (N := 16) (v := (σ.1 119 (i - 1))) C dX10_differentFrom_33 rfl rfl (by omega) (by omega) (by decide) rfl ?_
          refine g_icmp_eq (tgt := 41) C dX10_differentFrom_34 (by decide) ⟨hs _ (by omega), hs _ (by omega)⟩ (fun h3 => ?_) (fun h3 => ?_)
          · refine g_iconst (z := 0) C dX10_differentFrom_41 rfl ?_
            refine g_pc (pc' := 42) rfl ?_
            refine g_iadd C dX10_differentFrom_42 ?_
            refine g_istore_n (L' := [(3, .int (iZ (x3 + 0))), (0, .ref (κ.2.1 105)), (1, .int (iZ za)), (2, .int (iZ zb)), (4, .int (iZ x4))]) C dX10_differentFrom_43 rfl (by decide) rfl ?_
            refine g_iinc (q := 4) (v := (x4 + 1)) (L' := [(4, .int (iZ (x4 + 1))), (3, .int (iZ (x3 + 0))), (0, .ref (κ.2.1 105)), (1, .int (iZ za)), (2, .int (iZ zb))]) C dX10_differentFrom_44 rfl rfl (by decide) rfl ?_
            refine g_goto (tgt := 5) C dX10_differentFrom_47 (by decide) ?_
            exact g_loc [2, 3, 4, 1, 0] (by rfl) (ih5 (i + 1) (x3 + 0) (x4 + 1) (by omega) (by rw [hd1]; (first | rw [if_pos (by omega)] | rw [if_neg (by omega)]); omega) (by omega) (by omega))
          · refine g_iconst (z := 1) C dX10_differentFrom_37 rfl ?_
            refine g_goto (tgt := 42) C dX10_differentFrom_38 (by decide) ?_
            refine g_iadd C dX10_differentFrom_42 ?_
            refine g_istore_n (L' := [(3, .int (iZ (x3 + 1))), (0, .ref (κ.2.1 105)), (1, .int (iZ za)), (2, .int (iZ zb)), (4, .int (iZ x4))]) C dX10_differentFrom_43 rfl (by decide) rfl ?_
            refine g_pc (pc' := 44) rfl ?_
            refine g_iinc (q := 4) (v := (x4 + 1)) (L' := [(4, .int (iZ (x4 + 1))), (3, .int (iZ (x3 + 1))), (0, .ref (κ.2.1 105)), (1, .int (iZ za)), (2, .int (iZ zb))]) C dX10_differentFrom_44 rfl rfl (by decide) rfl ?_
            refine g_goto (tgt := 5) C dX10_differentFrom_47 (by decide) ?_
            exact g_loc [2, 3, 4, 1, 0] (by rfl) (ih5 (i + 1) (x3 + 1) (x4 + 1) (by omega) (by rw [hd1]; (first | rw [if_pos (by omega)] | rw [if_neg (by omega)]); omega) (by omega) (by omega))
  exact g_loc [2, 3, 4, 1, 0] (by rfl) (lp5 _ a 0 za (Nat.lt_succ_self _) (by rw [dif_0 _ _ _ (Nat.le_refl _)]; rfl) ha (by omega))
set_option maxHeartbeats 4000000 in
set_option maxRecDepth 100000 in
theorem c_X10_differentOf {κ : Kp} (hI : Ij κ) (l : Launch) (σ : St) {w : Wv} (hM : MW σ w) (hW : OKW w) {p : Nat} {zp : Int} (hp : zp = (p : Int)) (hp14 : p ≤ 14) : CtI κ l 2 yX10_differentOf cX10_differentOf 2 .int [.ref (κ.2.1 105), .int (iZ zp)] σ (fun z σ' => z = (wdif w p : Int) ∧ Fm SoC NoT σ σ') := by
  refine Ct.ofG (own := RX10) hI (by decide +kernel) rfl (Nat.le_of_ble_eq_true rfl) rfl ?_
  intro M C hMl
  have hto := hW.1 (p / 3) (by omega)
  refine g_aload_n C dX10_differentOf_0 rfl ?_
  refine g_iconst (z := 0) C dX10_differentOf_1 rfl ?_
  refine g_aload_n C dX10_differentOf_2 rfl ?_
  refine g_iload_n C dX10_differentOf_3 rfl ?_
  refine gc_X10_153 C dX10_differentOf_4 rfl (c_X10_sorts hI (Ml M) σ hM hW hp hp14) (by decide) (Nat.le_of_ble_eq_true rfl) (fun z s1 ⟨hz, hs, hF⟩ => ?_)
  refine gc_X10_160 C dX10_differentOf_7 rfl (c_X10_differentFrom hI (Ml M) s1 (a := 0) (b := wl w (p / 3)) rfl hz ⟨Nat.zero_le _, hto.1⟩ (fun j hj => by rw [hs j hj]; have := wsrt_r hW hp14 j hj; unfold R32; omega)) (by decide) (Nat.le_of_ble_eq_true rfl) (fun z2 σ9 ⟨hz2, hσ⟩ => ?_)
  subst σ9
  exact g_ireturn C dX10_differentOf_10 ⟨by rw [hz2]; exact congrArg (fun n : Nat => (n : Int)) (dif_cong hs), hF⟩
/-- the buckets -/
def HBm (σ : St) (S : Nat → Int) (n m k : Nat) : Prop := σ.1 105 18 = (bct n m k : Int) ∧ ∀ j, j < bct n m k → σ.1 120 j = S (bfr n m (bix n m k j)) ∧ σ.1 121 j = S (bfr n m (bix n m k j + 1) - 1) ∧ σ.1 122 j = ((bfr n m (bix n m k j + 1) - bfr n m (bix n m k j) : Nat) : Int) ∧ σ.1 123 j = (dif S (bfr n m (bix n m k j)) (bfr n m (bix n m k j + 1)) : Int)
theorem HBm_step {s : St} {S : Nat → Int} {n m k : Nat} (h : HBm s S n m k) (hn : bfr n m k < bfr n m (k + 1)) {v1 v2 v3 v4 x : Int} (e1 : v1 = S (bfr n m k)) (e2 : v2 = S (bfr n m (k + 1) - 1)) (e3 : v3 = ((bfr n m (k + 1) - bfr n m k : Nat) : Int)) (e4 : v4 = (dif S (bfr n m k) (bfr n m (k + 1)) : Int)) (ex : x = (bct n m k : Int) + 1) : HBm (sI (sI (sI (sI (sI s 120 (bct n m k) v1) 121 (bct n m k) v2) 122 (bct n m k) v3) 123 (bct n m k) v4) 105 18 x) S n m (k + 1) := by
  have c3 : bct n m (k + 1) = bct n m k + 1 := by rw [bct, if_pos hn]
  refine ⟨by rw [rI_s, c3, ex]; omega, fun j hj => ?_⟩
  by_cases hjk : j = bct n m k
  · subst hjk
    rw [bix_new n m k hn]
    refine ⟨?_, ?_, ?_, ?_⟩
    · rw [rI_k (by decide), rI_k (by decide), rI_k (by decide), rI_k (by decide), rI_s, e1]
    · rw [rI_k (by decide), rI_k (by decide), rI_k (by decide), rI_s, e2]
    · rw [rI_k (by decide), rI_k (by decide), rI_s, e3]
    · rw [rI_k (by decide), rI_s, e4]
  · have hj' : j < bct n m k := by omega
    rw [bix_keep n m k j hj']
    obtain ⟨h1, h2, h3, h4⟩ := h.2 j hj'
    refine ⟨?_, ?_, ?_, ?_⟩
    · rw [rI_k (by decide), rI_k (by decide), rI_k (by decide), rI_k (by decide), rI_j hjk, h1]
    · rw [rI_k (by decide), rI_k (by decide), rI_k (by decide), rI_j hjk, rI_k (by decide), h2]
    · rw [rI_k (by decide), rI_k (by decide), rI_j hjk, rI_k (by decide), rI_k (by decide), h3]
    · rw [rI_k (by decide), rI_j hjk, rI_k (by decide), rI_k (by decide), rI_k (by decide), h4]
theorem HBm_same {s : St} {S : Nat → Int} {n m k : Nat} (h : HBm s S n m k) (hn : ¬ bfr n m k < bfr n m (k + 1)) : HBm s S n m (k + 1) := by
  have e3 : bct n m (k + 1) = bct n m k := by rw [bct, if_neg hn]; rfl
  refine ⟨by rw [e3]; exact h.1, fun j hj => ?_⟩
  rw [e3] at hj
  rw [bix_keep n m k j hj]
  exact h.2 j hj
set_option maxHeartbeats 4000000 in
set_option maxRecDepth 100000 in
theorem c_X10_findBuckets {κ : Kp} (hI : Ij κ) (l : Launch) (σ : St) {w : Wv} (hM : MW σ w) (hW : OKW w) {p : Nat} {zp : Int} (hp : zp = (p : Int)) (hp14 : p ≤ 14) : CtV κ l 2 yX10_findBuckets cX10_findBuckets 7 [.ref (κ.2.1 105), .int (iZ zp)] σ (fun σ' => Fm HM HT σ σ' ∧ HBm σ' (wsrt w p) (wl w (p / 3)) (wb w (p / 3)) (wb w (p / 3))) := by
  refine Ct.ofG (own := RX10) hI (by decide +kernel) rfl (Nat.le_of_ble_eq_true rfl) rfl ?_
  intro M C hMl
  have hto := hW.1 (p / 3) (by omega)
  refine g_aload_n C dX10_findBuckets_0 rfl ?_
  refine g_iload_n C dX10_findBuckets_1 rfl ?_
  refine gc_X10_153 C dX10_findBuckets_2 rfl (c_X10_sorts hI (Ml M) σ hM hW hp hp14) (by decide) (Nat.le_of_ble_eq_true rfl) (fun z s0 ⟨hz, hs0, hF0⟩ => ?_)
  subst z
  have hM0 := hM.hm hF0.so
  refine g_istore_n (L' := [(2, .int (iZ ((wl w (p / 3)) : Int))), (0, .ref (κ.2.1 105)), (1, .int (iZ zp))]) C dX10_findBuckets_5 rfl (by decide) rfl ?_
  refine g_aload_n C dX10_findBuckets_6 rfl ?_
  refine gf_X10_19 C dX10_findBuckets_7 rfl ?_
  refine g_iload_n C dX10_findBuckets_10 rfl ?_
  refine g_pc (pc' := 11) rfl ?_
  refine g_iconst (z := 3) C dX10_findBuckets_11 rfl ?_
  refine g_idiv C dX10_findBuckets_12 (by omega) ?_
  refine g_iaz (n := (p / 3)) (N := 5) (v := ((wb w (p / 3)) : Int)) C dX10_findBuckets_13 rfl rfl (by omega) (by omega) (by decide) ((hM0.1 (p / 3) (by omega)).2.1) ?_
  refine g_istore_n (L' := [(3, .int (iZ ((wb w (p / 3)) : Int))), (2, .int (iZ ((wl w (p / 3)) : Int))), (0, .ref (κ.2.1 105)), (1, .int (iZ zp))]) C dX10_findBuckets_14 rfl (by decide) rfl ?_
  refine g_aload_n C dX10_findBuckets_15 rfl ?_
  refine g_iconst (z := 0) C dX10_findBuckets_16 rfl ?_
  refine gp_X10_157 C dX10_findBuckets_17 rfl ?_
  refine g_iconst (z := 0) C dX10_findBuckets_20 rfl ?_
  refine g_pc (pc' := 21) rfl ?_
  refine g_istore (L' := [(4, .int (iZ 0)), (3, .int (iZ ((wb w (p / 3)) : Int))), (2, .int (iZ ((wl w (p / 3)) : Int))), (0, .ref (κ.2.1 105)), (1, .int (iZ zp))]) C dX10_findBuckets_21 (by decide) rfl ?_
  have lp23 : ∀ (fz9 : Nat) (b : Nat) (x4 : Int) (q : St), ((wb w (p / 3)) - b < fz9) → (x4 = (b : Int)) → (b ≤ (wb w (p / 3))) → (Fm HM HT σ q) → (∀ j, j < (wl w (p / 3)) → q.1 119 j = wsrt w p j) → (HBm q (wsrt w p) (wl w (p / 3)) (wb w (p / 3)) b) → G M κ 7 (En M κ (qV κ (fun σ' => Fm HM HT σ σ' ∧ HBm σ' (wsrt w p) (wl w (p / 3)) (wb w (p / 3)) (wb w (p / 3))))) 23 [(0, .ref (κ.2.1 105)), (1, .int (iZ zp)), (2, .int (iZ ((wl w (p / 3)) : Int))), (3, .int (iZ ((wb w (p / 3)) : Int))), (4, .int (iZ x4))] [] q := by
    intro fz9
    induction fz9 with
    | zero => intro b x4 q hm0; exact absurd hm0 (Nat.not_lt_zero _)
    | succ fz9 ih23 =>
      intro b x4 q hm23 hx4 hb hF hs hH
      subst hx4
      have e1 : (b : Int) * ((wl w (p / 3)) : Int) = ((b * (wl w (p / 3)) : Nat) : Int) := (Int.natCast_mul b (wl w (p / 3))).symm
      have e2 : ((b : Int) + 1) * ((wl w (p / 3)) : Int) = (((b + 1) * (wl w (p / 3)) : Nat) : Int) := by rw [Int.natCast_mul]; rfl
      have e3 : b * (wl w (p / 3)) ≤ 8 * 16 := Nat.mul_le_mul (by omega) hto.1
      have e4 : (b + 1) * (wl w (p / 3)) ≤ 9 * 16 := Nat.mul_le_mul (by omega) hto.1
      have f1 : ((b * (wl w (p / 3)) : Nat) : Int) / ((wb w (p / 3)) : Int) = (bfr (wl w (p / 3)) (wb w (p / 3)) b : Int) := rfl
      have f2 : (((b + 1) * (wl w (p / 3)) : Nat) : Int) / ((wb w (p / 3)) : Int) = (bfr (wl w (p / 3)) (wb w (p / 3)) (b + 1) : Int) := rfl
      have hmo := bfr_mono (wl w (p / 3)) (wb w (p / 3)) b
      refine g_iload C dX10_findBuckets_23 rfl ?_
      refine g_iload_n C dX10_findBuckets_25 rfl ?_
      refine g_icmp_ge (tgt := 138) C dX10_findBuckets_26 (by decide) (by unfold R32; omega) (fun h1 => ?_) (fun h1 => ?_)
      · exact g_return C dX10_findBuckets_138 ⟨hF, by rw [show wb w (p / 3) = b by omega] at hH ⊢; exact hH⟩
      · refine g_iload C dX10_findBuckets_29 rfl ?_
        refine g_iload_n C dX10_findBuckets_31 rfl ?_
        refine g_imul C dX10_findBuckets_32 ?_
        refine g_pc (pc' := 33) rfl ?_
        refine g_iload_n C dX10_findBuckets_33 rfl ?_
        refine g_idiv C dX10_findBuckets_34 (by rw [e1]; omega) ?_
        refine g_int (z' := (bfr (wl w (p / 3)) (wb w (p / 3)) b : Int)) (by rw [e1]; exact f1) ?_
        refine g_istore (L' := [(5, .int (iZ (bfr (wl w (p / 3)) (wb w (p / 3)) b : Int))), (0, .ref (κ.2.1 105)), (1, .int (iZ zp)), (2, .int (iZ ((wl w (p / 3)) : Int))), (3, .int (iZ ((wb w (p / 3)) : Int))), (4, .int (iZ (b : Int)))]) C dX10_findBuckets_35 (by decide) rfl ?_
        refine g_iload C dX10_findBuckets_37 rfl ?_
        refine g_iconst (z := 1) C dX10_findBuckets_39 rfl ?_
        refine g_iadd C dX10_findBuckets_40 ?_
        refine g_iload_n C dX10_findBuckets_41 rfl ?_
        refine g_imul C dX10_findBuckets_42 ?_
        refine g_pc (pc' := 43) rfl ?_
        refine g_iload_n C dX10_findBuckets_43 rfl ?_
        refine g_idiv C dX10_findBuckets_44 (by rw [e2]; omega) ?_
        refine g_int (z' := (bfr (wl w (p / 3)) (wb w (p / 3)) (b + 1) : Int)) (by rw [e2]; exact f2) ?_
        have hble := bfr_le (wl w (p / 3)) (wb w (p / 3)) (b + 1) hto.2.1.1 (by omega)
        refine g_istore (L' := [(6, .int (iZ (bfr (wl w (p / 3)) (wb w (p / 3)) (b + 1) : Int))), (5, .int (iZ (bfr (wl w (p / 3)) (wb w (p / 3)) b : Int))), (0, .ref (κ.2.1 105)), (1, .int (iZ zp)), (2, .int (iZ ((wl w (p / 3)) : Int))), (3, .int (iZ ((wb w (p / 3)) : Int))), (4, .int (iZ (b : Int)))]) C dX10_findBuckets_45 (by decide) rfl ?_
        refine g_iload C dX10_findBuckets_47 rfl ?_
        refine g_iload C dX10_findBuckets_49 rfl ?_
        refine g_icmp_ne (tgt := 57) C dX10_findBuckets_51 (by decide) (by unfold R32; omega) (fun h2 => ?_) (fun h2 => ?_)
        · have hbl8 := bct_lt8 hto.2.1.2 (n := (wl w (p / 3))) (k := b) (by omega)
          refine g_aload_n C dX10_findBuckets_57 rfl ?_
          refine gf_X10_43 C dX10_findBuckets_58 rfl ?_
          refine g_pc (pc' := 61) rfl ?_
          refine g_aload_n C dX10_findBuckets_61 rfl ?_
          refine gf_X10_157 (z := ((bct (wl w (p / 3)) (wb w (p / 3)) b) : Int)) C dX10_findBuckets_62 rfl hH.1 ?_
          refine g_aload_n C dX10_findBuckets_65 rfl ?_
          refine gf_X10_40 C dX10_findBuckets_66 rfl ?_
          refine g_iload C dX10_findBuckets_69 rfl ?_
          refine g_iaz (n := (bfr (wl w (p / 3)) (wb w (p / 3)) b)) (N := 16) (v := (q.1 119 (bfr (wl w (p / 3)) (wb w (p / 3)) b))) C dX10_findBuckets_71 rfl rfl (by omega) (by omega) (by decide) rfl ?_
          refine g_iast (n := (bct (wl w (p / 3)) (wb w (p / 3)) b)) (N := 8) C dX10_findBuckets_72 rfl rfl (by omega) (by omega) (by decide) ?_
          refine g_aload_n C dX10_findBuckets_73 rfl ?_
          refine g_pc (pc' := 74) rfl ?_
          refine gf_X10_46 C dX10_findBuckets_74 rfl ?_
          refine g_aload_n C dX10_findBuckets_77 rfl ?_
          refine gf_X10_157 (z := ((bct (wl w (p / 3)) (wb w (p / 3)) b) : Int)) C dX10_findBuckets_78 rfl ((rI_k (by decide)).trans hH.1) ?_
          refine g_aload_n C dX10_findBuckets_81 rfl ?_
          refine gf_X10_40 C dX10_findBuckets_82 rfl ?_
          refine g_iload C dX10_findBuckets_85 rfl ?_
          refine g_iconst (z := 1) C dX10_findBuckets_87 rfl ?_
          refine g_isub C dX10_findBuckets_88 ?_
          refine g_pc (pc' := 89) rfl ?_
          refine g_iaz (n := ((bfr (wl w (p / 3)) (wb w (p / 3)) (b + 1)) - 1)) (N := 16) (v := (q.1 119 ((bfr (wl w (p / 3)) (wb w (p / 3)) (b + 1)) - 1))) C dX10_findBuckets_89 rfl rfl (by omega) (by omega) (by decide) (rI_k (by decide)) ?_
          refine g_iast (n := (bct (wl w (p / 3)) (wb w (p / 3)) b)) (N := 8) C dX10_findBuckets_90 rfl rfl (by omega) (by omega) (by decide) ?_
          refine g_aload_n C dX10_findBuckets_91 rfl ?_
          refine gf_X10_49 C dX10_findBuckets_92 rfl ?_
          refine g_aload_n C dX10_findBuckets_95 rfl ?_
          refine gf_X10_157 (z := ((bct (wl w (p / 3)) (wb w (p / 3)) b) : Int)) C dX10_findBuckets_96 rfl ((rI_k (by decide)).trans ((rI_k (by decide)).trans hH.1)) ?_
          refine g_iload C dX10_findBuckets_99 rfl ?_
          refine g_iload C dX10_findBuckets_101 rfl ?_
          refine g_pc (pc' := 103) rfl ?_
          refine g_isub C dX10_findBuckets_103 ?_
          refine g_iast (n := (bct (wl w (p / 3)) (wb w (p / 3)) b)) (N := 8) C dX10_findBuckets_104 rfl rfl (by omega) (by omega) (by decide) ?_
          refine g_aload_n C dX10_findBuckets_105 rfl ?_
          refine gf_X10_52 C dX10_findBuckets_106 rfl ?_
          refine g_aload_n C dX10_findBuckets_109 rfl ?_
          refine gf_X10_157 (z := ((bct (wl w (p / 3)) (wb w (p / 3)) b) : Int)) C dX10_findBuckets_110 rfl ((rI_k (by decide)).trans ((rI_k (by decide)).trans ((rI_k (by decide)).trans hH.1))) ?_
          refine g_aload_n C dX10_findBuckets_113 rfl ?_
          refine g_iload C dX10_findBuckets_114 rfl ?_
          refine g_pc (pc' := 116) rfl ?_
          refine g_iload C dX10_findBuckets_116 rfl ?_
          refine gc_X10_160 C dX10_findBuckets_118 rfl (c_X10_differentFrom hI (Ml M) (sI (sI (sI q 120 (bct (wl w (p / 3)) (wb w (p / 3)) b) (q.1 119 (bfr (wl w (p / 3)) (wb w (p / 3)) b))) 121 (bct (wl w (p / 3)) (wb w (p / 3)) b) (q.1 119 ((bfr (wl w (p / 3)) (wb w (p / 3)) (b + 1)) - 1))) 122 (bct (wl w (p / 3)) (wb w (p / 3)) b) ((bfr (wl w (p / 3)) (wb w (p / 3)) (b + 1) : Int) - (bfr (wl w (p / 3)) (wb w (p / 3)) b : Int))) (a := bfr (wl w (p / 3)) (wb w (p / 3)) b) (b := bfr (wl w (p / 3)) (wb w (p / 3)) (b + 1)) rfl rfl ⟨hmo, by omega⟩ (fun j hj => by rw [rI_k (by decide), rI_k (by decide), rI_k (by decide), hs j (by omega)]; have := wsrt_r hW hp14 j (by omega); unfold R32; omega)) (by decide) (Nat.le_of_ble_eq_true rfl) (fun z σ9 ⟨hz, hσ⟩ => ?_)
          subst σ9
          replace hz : z = (dif (wsrt w p) (bfr (wl w (p / 3)) (wb w (p / 3)) b) (bfr (wl w (p / 3)) (wb w (p / 3)) (b + 1)) : Int) := by rw [hz]; exact congrArg (fun n : Nat => (n : Int)) (dif_cong (fun j hj => by rw [rI_k (by decide), rI_k (by decide), rI_k (by decide)]; exact hs j (by omega)))
          refine g_iast (n := (bct (wl w (p / 3)) (wb w (p / 3)) b)) (N := 8) C dX10_findBuckets_121 rfl rfl (by omega) (by omega) (by decide) ?_
          refine g_aload_n C dX10_findBuckets_122 rfl ?_
          refine g_dup C dX10_findBuckets_123 rfl ?_
          refine gf_X10_157 (z := ((bct (wl w (p / 3)) (wb w (p / 3)) b) : Int)) C dX10_findBuckets_124 rfl ((rI_k (by decide)).trans ((rI_k (by decide)).trans ((rI_k (by decide)).trans ((rI_k (by decide)).trans hH.1)))) ?_
          refine g_iconst (z := 1) C dX10_findBuckets_127 rfl ?_
          refine g_iadd C dX10_findBuckets_128 ?_
          refine g_pc (pc' := 129) rfl ?_
          refine gp_X10_157 C dX10_findBuckets_129 rfl ?_
          refine g_iinc (q := 6) (v := ((b : Int) + 1)) (L' := [(4, .int (iZ ((b : Int) + 1))), (6, .int (iZ (bfr (wl w (p / 3)) (wb w (p / 3)) (b + 1) : Int))), (5, .int (iZ (bfr (wl w (p / 3)) (wb w (p / 3)) b : Int))), (0, .ref (κ.2.1 105)), (1, .int (iZ zp)), (2, .int (iZ ((wl w (p / 3)) : Int))), (3, .int (iZ ((wb w (p / 3)) : Int)))]) C dX10_findBuckets_132 rfl rfl (by decide) rfl ?_
          refine g_goto (tgt := 23) C dX10_findBuckets_135 (by decide) ?_
          exact g_loc [3, 4, 5, 6, 0] (by rfl) (ih23 (b + 1) ((b : Int) + 1) (sI (sI (sI (sI (sI q 120 (bct (wl w (p / 3)) (wb w (p / 3)) b) (q.1 119 (bfr (wl w (p / 3)) (wb w (p / 3)) b))) 121 (bct (wl w (p / 3)) (wb w (p / 3)) b) (q.1 119 ((bfr (wl w (p / 3)) (wb w (p / 3)) (b + 1)) - 1))) 122 (bct (wl w (p / 3)) (wb w (p / 3)) b) ((bfr (wl w (p / 3)) (wb w (p / 3)) (b + 1) : Int) - (bfr (wl w (p / 3)) (wb w (p / 3)) b : Int))) 123 (bct (wl w (p / 3)) (wb w (p / 3)) b) z) 105 18 (((bct (wl w (p / 3)) (wb w (p / 3)) b) : Int) + 1)) (by omega) rfl (by omega) (((((hF.a (by decide) (by unfold HM; omega)).a (by decide) (by unfold HM; omega)).a (by decide) (by unfold HM; omega)).a (by decide) (by unfold HM; omega)).t rfl) (fun j hj => by rw [rI_k (by decide), rI_k (by decide), rI_k (by decide), rI_k (by decide), rI_k (by decide)]; exact hs j hj) (HBm_step hH (by omega) (hs _ (by omega)) (hs _ (by omega)) (by omega) hz (by omega)))
        · refine g_goto (tgt := 132) C dX10_findBuckets_54 (by decide) ?_
          refine g_iinc (q := 6) (v := ((b : Int) + 1)) (L' := [(4, .int (iZ ((b : Int) + 1))), (6, .int (iZ (bfr (wl w (p / 3)) (wb w (p / 3)) (b + 1) : Int))), (5, .int (iZ (bfr (wl w (p / 3)) (wb w (p / 3)) b : Int))), (0, .ref (κ.2.1 105)), (1, .int (iZ zp)), (2, .int (iZ ((wl w (p / 3)) : Int))), (3, .int (iZ ((wb w (p / 3)) : Int)))]) C dX10_findBuckets_132 rfl rfl (by decide) rfl ?_
          refine g_goto (tgt := 23) C dX10_findBuckets_135 (by decide) ?_
          exact g_loc [3, 4, 5, 6, 0] (by rfl) (ih23 (b + 1) ((b : Int) + 1) q (by omega) rfl (by omega) hF hs (HBm_same hH (by omega)))
  exact g_loc [3, 4, 2, 1, 0] (by rfl) (lp23 _ 0 0 (sI s0 105 18 0) (Nat.lt_succ_self _) rfl (Nat.zero_le _) (hF0.so.t rfl) (fun j hj => by rw [rI_k (by decide)]; exact hs0 j hj) ⟨rI_s, fun j hj => absurd hj (Nat.not_lt_zero j)⟩)
