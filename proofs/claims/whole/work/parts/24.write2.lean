/-! Loops over a heap that changes; loops with more numbers. -/
section XrLoops2
variable {nL : Nat}
theorem xr_l4 {A B C D : Type} {P : Array Slot → Prop} (loc : A → B → C → D → List (Nat × Value)) (I : Nat → A → B → C → D → Prop) (h0 : ∀ a1 b1 c1 d1, ¬ I 0 a1 b1 c1 d1) (hs : ∀ k a1 b1 c1 d1 ls, lv_has ls nL (loc a1 b1 c1 d1) → I (k + 1) a1 b1 c1 d1 → (∀ a1 b1 c1 d1 ls, lv_has ls nL (loc a1 b1 c1 d1) → I k a1 b1 c1 d1 → P ls) → P ls) (k : Nat) : ∀ (a1 : A) (b1 : B) (c1 : C) (d1 : D) (ls : Array Slot), lv_has ls nL (loc a1 b1 c1 d1) → I k a1 b1 c1 d1 → P ls := by
  induction k with
  | zero => exact fun a1 b1 c1 d1 _ _ h => absurd h (h0 a1 b1 c1 d1)
  | succ k ih => exact fun a1 b1 c1 d1 ls hl h => hs k a1 b1 c1 d1 ls hl h ih
theorem xr_l5 {A B C D E : Type} {P : Array Slot → Prop} (loc : A → B → C → D → E → List (Nat × Value)) (I : Nat → A → B → C → D → E → Prop) (h0 : ∀ a1 b1 c1 d1 e1, ¬ I 0 a1 b1 c1 d1 e1) (hs : ∀ k a1 b1 c1 d1 e1 ls, lv_has ls nL (loc a1 b1 c1 d1 e1) → I (k + 1) a1 b1 c1 d1 e1 → (∀ a1 b1 c1 d1 e1 ls, lv_has ls nL (loc a1 b1 c1 d1 e1) → I k a1 b1 c1 d1 e1 → P ls) → P ls) (k : Nat) : ∀ (a1 : A) (b1 : B) (c1 : C) (d1 : D) (e1 : E) (ls : Array Slot), lv_has ls nL (loc a1 b1 c1 d1 e1) → I k a1 b1 c1 d1 e1 → P ls := by
  induction k with
  | zero => exact fun a1 b1 c1 d1 e1 _ _ h => absurd h (h0 a1 b1 c1 d1 e1)
  | succ k ih => exact fun a1 b1 c1 d1 e1 ls hl h => hs k a1 b1 c1 d1 e1 ls hl h ih
theorem xr_l6 {A B C D E F : Type} {P : Array Slot → Prop} (loc : A → B → C → D → E → F → List (Nat × Value)) (I : Nat → A → B → C → D → E → F → Prop) (h0 : ∀ a1 b1 c1 d1 e1 f1, ¬ I 0 a1 b1 c1 d1 e1 f1) (hs : ∀ k a1 b1 c1 d1 e1 f1 ls, lv_has ls nL (loc a1 b1 c1 d1 e1 f1) → I (k + 1) a1 b1 c1 d1 e1 f1 → (∀ a1 b1 c1 d1 e1 f1 ls, lv_has ls nL (loc a1 b1 c1 d1 e1 f1) → I k a1 b1 c1 d1 e1 f1 → P ls) → P ls) (k : Nat) : ∀ (a1 : A) (b1 : B) (c1 : C) (d1 : D) (e1 : E) (f1 : F) (ls : Array Slot), lv_has ls nL (loc a1 b1 c1 d1 e1 f1) → I k a1 b1 c1 d1 e1 f1 → P ls := by
  induction k with
  | zero => exact fun a1 b1 c1 d1 e1 f1 _ _ h => absurd h (h0 a1 b1 c1 d1 e1 f1)
  | succ k ih => exact fun a1 b1 c1 d1 e1 f1 ls hl h => hs k a1 b1 c1 d1 e1 f1 ls hl h ih
theorem xr_w2 {A B : Type} {P : Heap → List Loc → Array Slot → Prop} (loc : A → B → List (Nat × Value)) (I : Nat → A → B → Heap → List Loc → Prop) (h0 : ∀ a1 b1 H L, ¬ I 0 a1 b1 H L) (hs : ∀ k a1 b1 H L ls, lv_has ls nL (loc a1 b1) → I (k + 1) a1 b1 H L → (∀ a1 b1 H L ls, lv_has ls nL (loc a1 b1) → I k a1 b1 H L → P H L ls) → P H L ls) (k : Nat) : ∀ (a1 : A) (b1 : B) (H : Heap) (L : List Loc) (ls : Array Slot), lv_has ls nL (loc a1 b1) → I k a1 b1 H L → P H L ls := by
  induction k with
  | zero => exact fun a1 b1 _ _ _ _ h => absurd h (h0 a1 b1 _ _)
  | succ k ih => exact fun a1 b1 H L ls hl h => hs k a1 b1 H L ls hl h ih
theorem xr_w3 {A B C : Type} {P : Heap → List Loc → Array Slot → Prop} (loc : A → B → C → List (Nat × Value)) (I : Nat → A → B → C → Heap → List Loc → Prop) (h0 : ∀ a1 b1 c1 H L, ¬ I 0 a1 b1 c1 H L) (hs : ∀ k a1 b1 c1 H L ls, lv_has ls nL (loc a1 b1 c1) → I (k + 1) a1 b1 c1 H L → (∀ a1 b1 c1 H L ls, lv_has ls nL (loc a1 b1 c1) → I k a1 b1 c1 H L → P H L ls) → P H L ls) (k : Nat) : ∀ (a1 : A) (b1 : B) (c1 : C) (H : Heap) (L : List Loc) (ls : Array Slot), lv_has ls nL (loc a1 b1 c1) → I k a1 b1 c1 H L → P H L ls := by
  induction k with
  | zero => exact fun a1 b1 c1 _ _ _ _ h => absurd h (h0 a1 b1 c1 _ _)
  | succ k ih => exact fun a1 b1 c1 H L ls hl h => hs k a1 b1 c1 H L ls hl h ih
theorem xr_w4 {A B C D : Type} {P : Heap → List Loc → Array Slot → Prop} (loc : A → B → C → D → List (Nat × Value)) (I : Nat → A → B → C → D → Heap → List Loc → Prop) (h0 : ∀ a1 b1 c1 d1 H L, ¬ I 0 a1 b1 c1 d1 H L) (hs : ∀ k a1 b1 c1 d1 H L ls, lv_has ls nL (loc a1 b1 c1 d1) → I (k + 1) a1 b1 c1 d1 H L → (∀ a1 b1 c1 d1 H L ls, lv_has ls nL (loc a1 b1 c1 d1) → I k a1 b1 c1 d1 H L → P H L ls) → P H L ls) (k : Nat) : ∀ (a1 : A) (b1 : B) (c1 : C) (d1 : D) (H : Heap) (L : List Loc) (ls : Array Slot), lv_has ls nL (loc a1 b1 c1 d1) → I k a1 b1 c1 d1 H L → P H L ls := by
  induction k with
  | zero => exact fun a1 b1 c1 d1 _ _ _ _ h => absurd h (h0 a1 b1 c1 d1 _ _)
  | succ k ih => exact fun a1 b1 c1 d1 H L ls hl h => hs k a1 b1 c1 d1 H L ls hl h ih
end XrLoops2
theorem o_dn {v : Int64} (h : ¬ fX4_isDown v = 0) : ¬ v.toInt32 = 0 := by
  unfold fX4_isDown at h
  split at h
  · exact absurd rfl h
  · rename_i h1
    split at h
    · exact absurd rfl h
    · rename_i h2
      rw [lg_cmp_lt, Int64.lt_iff_toInt_lt, show (1 : Int64).toInt = 1 from rfl] at h1
      rw [lg_cmp_gt, Int64.lt_iff_toInt_lt, show (12 : Int64).toInt = 12 from rfl] at h2
      intro e
      have e2 : v.toInt32.toInt = 0 := by rw [e]; rfl
      rw [Int64.toInt_toInt32, Int.bmod_def] at e2
      omega
