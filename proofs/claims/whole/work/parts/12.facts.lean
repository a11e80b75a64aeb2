/-! What the refusals tell. -/
theorem o_has {pm a : Int32} (h : ¬ fX2_has pm a = 0) (hp : pm.toInt ≤ (60 : Nat)) : vp_in a 60 := by
  unfold fX2_has at h
  split at h
  · exact absurd rfl h
  · rename_i h1
    split at h
    · exact absurd rfl h
    · rename_i h2
      rw [Int32.lt_iff_toInt_lt, show (0 : Int32).toInt = 0 from rfl] at h1
      rw [Int32.le_iff_toInt_le] at h2
      rw [vp_in_iff]; omega
theorem o_all {pm a b c d : Int32} (h : ¬ fX2_hasAll pm a b c d = 0) (hp : pm.toInt ≤ (60 : Nat)) : vp_in a 60 ∧ vp_in b 60 ∧ vp_in c 60 ∧ vp_in d 60 := by
  unfold fX2_hasAll at h
  split at h
  · exact absurd rfl h
  · rename_i h1
    split at h
    · exact absurd rfl h
    · rename_i h2
      split at h
      · exact absurd rfl h
      · rename_i h3
        split at h
        · exact absurd rfl h
        · rename_i h4
          exact ⟨o_has h1 hp, o_has h2 hp, o_has h3 hp, o_has h4 hp⟩
theorem o_refA {held : Nat → Int32} {rm n : Int32} (k : Nat) : ∀ i : Int32, xr_u n i k → fX3_refusal_A held rm n k i = 0 → ∀ j : Nat, i.toInt ≤ (j : Int) → (j : Int) < n.toInt → ¬ held j = -1 := by
  induction k with
  | zero => exact fun i h => absurd h xr_u0
  | succ k ih =>
    intro i h e j h1 h2
    rw [fX3_refusal_A_s] at e
    split at e
    · rename_i h3
      rw [Int32.le_iff_toInt_le] at h3; omega
    · rename_i h3
      split at e
      · exact absurd e (by decide)
      · rename_i h4
        by_cases h5 : i.toInt = (j : Int)
        · have : i.toNatClampNeg = j := by have := xr_cl0 h.1; omega
          rw [this] at h4; exact h4
        · exact ih (i + 1) (xr_us h h3) e j (by rw [xr_s1 h3]; omega) h2
/-- what stands in a PLACE: NONE, or a POINT -/
def hok (held : Nat → Int32) : Prop := ∀ j : Nat, held j = -1 ∨ vp_in (held j) 60
theorem o_ref {held : Nat → Int32} {rm n : Int32} (h : fX3_refusal held rm n = 0) (hr : rm.toInt ≤ (24 : Nat)) (hh : hok held) : n.toInt ≤ (24 : Nat) ∧ 1 ≤ n.toInt ∧ ∀ j : Nat, (j : Int) < n.toInt → vp_in (held j) 60 := by
  unfold fX3_refusal at h
  split at h
  · exact absurd h (by decide)
  · rename_i h1
    rw [Int32.lt_iff_toInt_lt, show (1 : Int32).toInt = 1 from rfl] at h1
    split at h
    · rename_i h2
      rw [Int32.le_iff_toInt_le] at h2
      refine ⟨by omega, by omega, fun j hj => ?_⟩
      exact (hh j).resolve_left (o_refA _ 0 (xr_ub n) h j (by show (0 : Int) ≤ _; omega) hj)
    · exact absurd h (by decide)
theorem o_nz {v : Int64} (h : ¬ lg_cmp v (1 : Int64) < 0) : ¬ v = 0 := fun e => by
  rw [e] at h; exact absurd (by decide) h
