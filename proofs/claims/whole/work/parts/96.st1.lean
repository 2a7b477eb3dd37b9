/-! THE START: both views -/
def v0 (k j : Nat) : Int := if kd k = 5 then (if j = 2 then 4 else if j = 3 then -1 else 0) else if kd k = 2 then (if j = 2 then -1 else if j = 4 then -1 else if j = 5 then -1 else if j = 6 then 1 else 0) else if kd k = 8 then (if j = 8 then 1 else 0) else if k = 76 then (if j = 10 then -1 else 0) else if k = 105 then (if j = 12 then 1 else if j = 52 then -1 else 0) else if k = 109 then (if j < 5 then 4 else 0) else if k = 110 then (if j < 5 then -1 else 0) else 0
def st0 : St := (v0, fun _ _ => 0, fun _ _ => 0)
def w00 : Wv := (fun a _ _ => if a = 2 then 4 else 0, 1)
def V00 : Vw := (w00, (0, w00), (fun _ _ => 0, fun _ _ => 0, fun _ _ => 0), (0, fun _ _ => 0), (-1, fun _ => 0))
theorem st0_X : XV st0 V00 := by
  refine ⟨⟨t5 ⟨rfl, rfl, rfl, fun i hi => absurd hi (Nat.not_lt_zero i)⟩ ⟨rfl, rfl, rfl, fun i hi => absurd hi (Nat.not_lt_zero i)⟩ ⟨rfl, rfl, rfl, fun i hi => absurd hi (Nat.not_lt_zero i)⟩ ⟨rfl, rfl, rfl, fun i hi => absurd hi (Nat.not_lt_zero i)⟩ ⟨rfl, rfl, rfl, fun i hi => absurd hi (Nat.not_lt_zero i)⟩, ⟨rfl, fun i hi => absurd hi (Nat.not_lt_zero i)⟩, ⟨rfl, fun i hi => absurd hi (Nat.not_lt_zero i)⟩, rfl⟩, ⟨rfl, fun e => absurd e (show ¬ (0 : Nat) = 1 by decide)⟩, fun s hs => ?_, ⟨rfl, fun i hi => absurd hi (Nat.not_lt_zero i)⟩, ⟨rfl, fun y _ => rfl⟩⟩
  have hs8 : s = 0 ∨ s = 1 ∨ s = 2 ∨ s = 3 ∨ s = 4 ∨ s = 5 ∨ s = 6 ∨ s = 7 := by omega
  rcases hs8 with e | e | e | e | e | e | e | e <;> subst e <;> exact ⟨rfl, ⟨by decide +kernel, by decide +kernel⟩, fun e => absurd e (show ¬ (0 : Nat) = 1 by decide), fun e => absurd e (show ¬ (0 : Nat) = 2 by decide)⟩
theorem st0_M : MV st0 V00 := by
  refine ⟨⟨fun t ht => ⟨rfl, ?_, ?_, fun i hi => absurd hi (Nat.not_lt_zero i)⟩, ⟨rfl, fun i hi => absurd hi (Nat.not_lt_zero i)⟩, ⟨rfl, fun i hi => absurd hi (Nat.not_lt_zero i)⟩, rfl⟩, ⟨rfl, fun e => absurd e (show ¬ (0 : Nat) = 1 by decide)⟩, fun s hs => ⟨fun _ => rfl, fun e => absurd e (show ¬ (0 : Nat) = 1 by decide), fun e => absurd e (show ¬ (0 : Nat) = 2 by decide)⟩, ⟨rfl, fun i hi => absurd hi (Nat.not_lt_zero i)⟩, ⟨rfl, fun y _ => rfl⟩⟩
  · show (if t < 5 then (4 : Int) else 0) = 4
    rw [if_pos ht]
  · show (if t < 5 then (-1 : Int) else 0) = -1
    rw [if_pos ht]
theorem V00_O : OKV V00 := by
  have h0 : OKW w00 := ⟨fun t ht => ⟨Nat.zero_le _, ⟨(by show 0 < 4; decide), (by show 4 ≤ 8; decide)⟩, Nat.zero_le _, fun i hi => absurd hi (Nat.not_lt_zero i)⟩, ⟨Nat.zero_le _, fun i hi => absurd hi (Nat.not_lt_zero i)⟩, ⟨Nat.zero_le _, fun i hi => absurd hi (Nat.not_lt_zero i)⟩⟩
  exact ⟨h0, ⟨Nat.zero_le _, fun e => absurd e (show ¬ (0 : Nat) = 1 by decide)⟩, fun s _ => ⟨Nat.zero_le _, fun e => absurd e (show ¬ (0 : Nat) = 1 by decide), fun e => absurd e (show ¬ (0 : Nat) = 2 by decide)⟩, ⟨Nat.zero_le _, fun i hi => absurd hi (Nat.not_lt_zero i)⟩, (by unfold R32; decide : R32 (-1))⟩
