/-! Numbers: signs, sums and products that don't pass the word. -/
def sg (x : Int) : Int32 := if 0 < x then 1 else if x < 0 then -1 else 0
theorem sg_pos {x : Int} (h : 0 < x) : sg x = 1 := if_pos h
theorem sg_neg {x : Int} (h : x < 0) : sg x = -1 := by unfold sg; rw [if_neg (by omega), if_pos h]
theorem sg_zero : sg 0 = 0 := rfl
theorem sg_eq0 {x : Int} : sg x = 0 ↔ x = 0 := by
  rcases Int.lt_trichotomy x 0 with h | h | h
  · rw [sg_neg h]; exact ⟨fun e => absurd e (by decide), fun e => absurd e (by omega)⟩
  · subst h; exact ⟨fun _ => rfl, fun _ => rfl⟩
  · rw [sg_pos h]; exact ⟨fun e => absurd e (by decide), fun e => absurd e (by omega)⟩
theorem sg_eq1 {x : Int} : sg x = 1 ↔ 0 < x := by
  rcases Int.lt_trichotomy x 0 with h | h | h
  · rw [sg_neg h]; exact ⟨fun e => absurd e (by decide), fun e => absurd e (by omega)⟩
  · subst h; exact ⟨fun e => absurd e (by decide), fun e => absurd e (by omega)⟩
  · rw [sg_pos h]; exact ⟨fun _ => h, fun _ => rfl⟩
theorem sg_gt {x : Int} : 0 < sg x ↔ 0 < x := by
  rcases Int.lt_trichotomy x 0 with h | h | h
  · rw [sg_neg h]; exact ⟨fun e => absurd e (by decide), fun e => absurd e (by omega)⟩
  · subst h; exact ⟨fun e => absurd e (by decide), fun e => absurd e (by omega)⟩
  · rw [sg_pos h]; exact ⟨fun _ => h, fun _ => by decide⟩
theorem sg_lt {x : Int} : sg x < 0 ↔ x < 0 := by
  rcases Int.lt_trichotomy x 0 with h | h | h
  · rw [sg_neg h]; exact ⟨fun _ => h, fun _ => by decide⟩
  · subst h; exact ⟨fun e => absurd e (by decide), fun e => absurd e (by omega)⟩
  · rw [sg_pos h]; exact ⟨fun e => absurd e (by decide), fun e => absurd e (by omega)⟩
theorem sg_le {x : Int} : sg x ≤ 0 ↔ x ≤ 0 := by
  rcases Int.lt_trichotomy x 0 with h | h | h
  · rw [sg_neg h]; exact ⟨fun _ => by omega, fun _ => by decide⟩
  · subst h; exact ⟨fun _ => by omega, fun _ => by decide⟩
  · rw [sg_pos h]; exact ⟨fun e => absurd e (by decide), fun e => absurd e (by omega)⟩
theorem sg_ge {x : Int} : 0 ≤ sg x ↔ 0 ≤ x := by
  rcases Int.lt_trichotomy x 0 with h | h | h
  · rw [sg_neg h]; exact ⟨fun e => absurd e (by decide), fun e => absurd e (by omega)⟩
  · subst h; exact ⟨fun _ => by omega, fun _ => by decide⟩
  · rw [sg_pos h]; exact ⟨fun _ => by omega, fun _ => by decide⟩
theorem sg_inv {x : Int} : sg (-x) = - sg x := by
  rcases Int.lt_trichotomy x 0 with h | h | h
  · rw [sg_neg h, sg_pos (show 0 < -x by omega)]; decide
  · subst h; decide
  · rw [sg_pos h, sg_neg (show -x < 0 by omega)]
/-- |p| ≤ A -/
def ab (A p : Int) : Prop := -A ≤ p ∧ p ≤ A
theorem ab_mul {A B p q : Int} (hp : ab A p) (hq : ab B q) : ab (A * B) (p * q) := by
  obtain ⟨p1, p2⟩ := hp
  obtain ⟨q1, q2⟩ := hq
  have hA : 0 ≤ A := by omega
  have hB : 0 ≤ B := by omega
  have h1 : p.natAbs ≤ A.natAbs := by omega
  have h2 : q.natAbs ≤ B.natAbs := by omega
  have h3 : (p * q).natAbs ≤ (A * B).natAbs := by rw [Int.natAbs_mul, Int.natAbs_mul]; exact Nat.mul_le_mul h1 h2
  have h4 : 0 ≤ A * B := Int.mul_nonneg hA hB
  constructor <;> omega
theorem ab_add {A B p q : Int} (hp : ab A p) (hq : ab B q) : ab (A + B) (p + q) := by
  obtain ⟨p1, p2⟩ := hp
  obtain ⟨q1, q2⟩ := hq
  constructor <;> omega
theorem ab_sub {A B p q : Int} (hp : ab A p) (hq : ab B q) : ab (A + B) (p - q) := by
  obtain ⟨p1, p2⟩ := hp
  obtain ⟨q1, q2⟩ := hq
  constructor <;> omega
theorem ab_le {A B p : Int} (hp : ab A p) (h : A ≤ B) : ab B p := by
  obtain ⟨p1, p2⟩ := hp
  constructor <;> omega
theorem bm32 {x : Int} (h : ab 2147483647 x) : x.bmod (2 ^ 32) = x := by
  obtain ⟨h1, h2⟩ := h
  rw [Int.bmod_def]; omega
theorem bm64 {x : Int} (h : ab 9223372036854775807 x) : x.bmod (2 ^ 64) = x := by
  obtain ⟨h1, h2⟩ := h
  rw [Int.bmod_def]; omega
/-- the word x is the number p, and |p| ≤ A -/
def i3 (A : Int) (x : Int32) (p : Int) : Prop := x.toInt = p ∧ ab A p
def i6 (A : Int) (x : Int64) (p : Int) : Prop := x.toInt = p ∧ ab A p
theorem i3_sub {A B : Int} {x y : Int32} {p q : Int} (hx : i3 A x p) (hy : i3 B y q) (h : A + B ≤ 2147483647) : i3 (A + B) (x - y) (p - q) := by
  have hs := ab_sub hx.2 hy.2
  exact ⟨by rw [Int32.toInt_sub, hx.1, hy.1]; exact bm32 (ab_le hs h), hs⟩
theorem i3_add {A B : Int} {x y : Int32} {p q : Int} (hx : i3 A x p) (hy : i3 B y q) (h : A + B ≤ 2147483647) : i3 (A + B) (x + y) (p + q) := by
  have hs := ab_add hx.2 hy.2
  exact ⟨by rw [Int32.toInt_add, hx.1, hy.1]; exact bm32 (ab_le hs h), hs⟩
theorem i3_mul {A B : Int} {x y : Int32} {p q : Int} (hx : i3 A x p) (hy : i3 B y q) (h : A * B ≤ 2147483647) : i3 (A * B) (x * y) (p * q) := by
  have hs := ab_mul hx.2 hy.2
  exact ⟨by rw [Int32.toInt_mul, hx.1, hy.1]; exact bm32 (ab_le hs h), hs⟩
theorem i6_of {A : Int} {x : Int32} {p : Int} (hx : i3 A x p) : i6 A x.toInt64 p := ⟨by rw [Int32.toInt_toInt64]; exact hx.1, hx.2⟩
theorem i6_sub {A B : Int} {x y : Int64} {p q : Int} (hx : i6 A x p) (hy : i6 B y q) (h : A + B ≤ 9223372036854775807) : i6 (A + B) (x - y) (p - q) := by
  have hs := ab_sub hx.2 hy.2
  exact ⟨by rw [Int64.toInt_sub, hx.1, hy.1]; exact bm64 (ab_le hs h), hs⟩
theorem i6_add {A B : Int} {x y : Int64} {p q : Int} (hx : i6 A x p) (hy : i6 B y q) (h : A + B ≤ 9223372036854775807) : i6 (A + B) (x + y) (p + q) := by
  have hs := ab_add hx.2 hy.2
  exact ⟨by rw [Int64.toInt_add, hx.1, hy.1]; exact bm64 (ab_le hs h), hs⟩
theorem i6_mul {A B : Int} {x y : Int64} {p q : Int} (hx : i6 A x p) (hy : i6 B y q) (h : A * B ≤ 9223372036854775807) : i6 (A * B) (x * y) (p * q) := by
  have hs := ab_mul hx.2 hy.2
  exact ⟨by rw [Int64.toInt_mul, hx.1, hy.1]; exact bm64 (ab_le hs h), hs⟩
theorem i3_le {A B : Int} {x : Int32} {p : Int} (hx : i3 A x p) (h : A ≤ B) : i3 B x p := ⟨hx.1, ab_le hx.2 h⟩
theorem i6_le {A B : Int} {x : Int64} {p : Int} (hx : i6 A x p) (h : A ≤ B) : i6 B x p := ⟨hx.1, ab_le hx.2 h⟩
theorem i6_lt {A B : Int} {x y : Int64} {p q : Int} (hx : i6 A x p) (hy : i6 B y q) : x < y ↔ p < q := by rw [Int64.lt_iff_toInt_lt, hx.1, hy.1]
theorem i6_eq {A B : Int} {x y : Int64} {p q : Int} (hx : i6 A x p) (hy : i6 B y q) : x = y ↔ p = q := by rw [← Int64.toInt_inj, hx.1, hy.1]
theorem i3_lt {A B : Int} {x y : Int32} {p q : Int} (hx : i3 A x p) (hy : i3 B y q) : x < y ↔ p < q := by rw [Int32.lt_iff_toInt_lt, hx.1, hy.1]
theorem i3_eq {A B : Int} {x y : Int32} {p q : Int} (hx : i3 A x p) (hy : i3 B y q) : x = y ↔ p = q := by rw [← Int32.toInt_inj, hx.1, hy.1]
theorem i3_lei {A B : Int} {x y : Int32} {p q : Int} (hx : i3 A x p) (hy : i3 B y q) : x ≤ y ↔ p ≤ q := by rw [Int32.le_iff_toInt_le, hx.1, hy.1]
/-- coordinates: no number of the row is greater than 9600 -/
def bd (f : Nat → Int32) : Prop := ∀ j, ab 9600 (f j).toInt
def cx (f : Nat → Int32) (a : Int32) : Int := (f a.toNatClampNeg).toInt
theorem bd_i {f : Nat → Int32} (h : bd f) (a : Int32) : i3 9600 (f a.toNatClampNeg) (cx f a) := ⟨rfl, h _⟩
