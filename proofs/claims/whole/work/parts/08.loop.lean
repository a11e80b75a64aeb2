/-! Loops: a counter that goes up to n; the fuel k is greater than what is left. -/
section XrLoops
variable {P : Array Slot → Prop} {nL : Nat}
theorem xr_l1 {A : Type} (loc : A → List (Nat × Value)) (I : Nat → A → Prop) (h0 : ∀ a, ¬ I 0 a) (hs : ∀ k a ls, lv_has ls nL (loc a) → I (k + 1) a → (∀ b ls, lv_has ls nL (loc b) → I k b → P ls) → P ls) (k : Nat) : ∀ (a : A) (ls : Array Slot), lv_has ls nL (loc a) → I k a → P ls := by
  induction k with
  | zero => exact fun a _ _ h => absurd h (h0 a)
  | succ k ih => exact fun a ls hl h => hs k a ls hl h ih
theorem xr_l2 {A B : Type} (loc : A → B → List (Nat × Value)) (I : Nat → A → B → Prop) (h0 : ∀ a b, ¬ I 0 a b) (hs : ∀ k a b ls, lv_has ls nL (loc a b) → I (k + 1) a b → (∀ a b ls, lv_has ls nL (loc a b) → I k a b → P ls) → P ls) (k : Nat) : ∀ (a : A) (b : B) (ls : Array Slot), lv_has ls nL (loc a b) → I k a b → P ls := by
  induction k with
  | zero => exact fun a b _ _ h => absurd h (h0 a b)
  | succ k ih => exact fun a b ls hl h => hs k a b ls hl h ih
theorem xr_l3 {A B C : Type} (loc : A → B → C → List (Nat × Value)) (I : Nat → A → B → C → Prop) (h0 : ∀ a b c, ¬ I 0 a b c) (hs : ∀ k a b c ls, lv_has ls nL (loc a b c) → I (k + 1) a b c → (∀ a b c ls, lv_has ls nL (loc a b c) → I k a b c → P ls) → P ls) (k : Nat) : ∀ (a : A) (b : B) (c : C) (ls : Array Slot), lv_has ls nL (loc a b c) → I k a b c → P ls := by
  induction k with
  | zero => exact fun a b c _ _ h => absurd h (h0 a b c)
  | succ k ih => exact fun a b c ls hl h => hs k a b c ls hl h ih
end XrLoops
/-- i goes up to n, less than k steps are left -/
def xr_u (n i : Int32) (k : Nat) : Prop := 0 ≤ i.toInt ∧ (n.toInt - i.toInt).toNat < k
theorem xr_u0 {n i : Int32} : ¬ xr_u n i 0 := fun h => Nat.not_lt_zero _ h.2
theorem xr_ub (n : Int32) : xr_u n 0 (n.toInt.toNat + 1) := ⟨by decide, by show (n.toInt - 0).toNat < _; omega⟩
theorem xr_s1 {n i : Int32} (h : ¬ n ≤ i) : (i + 1).toInt = i.toInt + 1 := by
  have h1 : i.toInt < n.toInt := by rw [Int32.le_iff_toInt_le] at h; omega
  have h2 := Int32.toInt_lt n
  have h3 := Int32.le_toInt i
  rw [Int32.toInt_add, show (1 : Int32).toInt = 1 from rfl, Int.bmod_def]; omega
theorem xr_us {n i : Int32} {k : Nat} (h : xr_u n i (k + 1)) (hc : ¬ n ≤ i) : xr_u n (i + 1) k := by
  have h1 : i.toInt < n.toInt := by rw [Int32.le_iff_toInt_le] at hc; omega
  obtain ⟨h2, h3⟩ := h
  refine ⟨?_, ?_⟩ <;> rw [xr_s1 hc] <;> omega
theorem xr_in {n i : Int32} {k N : Nat} (h : xr_u n i k) (hc : ¬ n ≤ i) (hn : n.toInt ≤ N) : vp_in i N := by
  rw [Int32.le_iff_toInt_le] at hc
  rw [vp_in_iff]; exact ⟨h.1, by omega⟩
theorem xr_cl0 {i : Int32} (h : 0 ≤ i.toInt) : (i.toNatClampNeg : Int) = i.toInt := by
  rw [Int32.toNatClampNeg]; omega
theorem xr_cl {n i : Int32} {k : Nat} (h : xr_u n i k) (hc : ¬ n ≤ i) : (i.toNatClampNeg : Int) < n.toInt := by
  rw [Int32.le_iff_toInt_le] at hc
  rw [xr_cl0 h.1]; omega
