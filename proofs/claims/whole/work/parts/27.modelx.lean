/-! The reference: lines. -/
def fX5_lines_B (la lb lc : Nat → Int64) (lm : Int32) (n : Int32) (wh : Int32) (df : Int32) (me : Int32) (mo : Int32) (ms_ : Int32) (o_ : Int32) (i : Int32) (K : Int32 → Int32 → Int32 → Int32 → Int32 → Int32) : Nat → Int32 → Int32 → Int32 → Int32 → Int32 → Int32
  | 0, _, _, _, _, _ => 0
  | kB + 1, me2, mo2, ms2, o2, k_ => if n ≤ k_ then (K me2 mo2 ms2 o2 k_) else (fX5_lines_B la lb lc lm n wh df me mo ms_ o_ i K kB me2 mo2 ms2 o2 (k_ + 1))
theorem fX5_lines_B_s (la lb lc : Nat → Int64) (lm : Int32) (n : Int32) (wh : Int32) (df : Int32) (me : Int32) (mo : Int32) (ms_ : Int32) (o_ : Int32) (i : Int32) (K : Int32 → Int32 → Int32 → Int32 → Int32 → Int32) (kB : Nat) (me2 : Int32) (mo2 : Int32) (ms2 : Int32) (o2 : Int32) (k_ : Int32) : fX5_lines_B la lb lc lm n wh df me mo ms_ o_ i K (kB + 1) me2 mo2 ms2 o2 k_ = (if n ≤ k_ then (K me2 mo2 ms2 o2 k_) else (fX5_lines_B la lb lc lm n wh df me mo ms_ o_ i K kB me2 mo2 ms2 o2 (k_ + 1))) := rfl
def fX5_lines_C (la lb lc : Nat → Int64) (lm : Int32) (n : Int32) (wh : Int32) (df : Int32) (me : Int32) (mo : Int32) (ms_ : Int32) (o_ : Int32) (i : Int32) (me2 : Int32) (mo2 : Int32) (ms2 : Int32) (o2 : Int32) (k_ : Int32) (K : Int32 → Int32 → Int32 → Int32) : Nat → Int32 → Int32 → Int32 → Int32
  | 0, _, _, _ => 0
  | kC + 1, fi, thr, j => if n ≤ j then (K fi thr j) else (if (fX5_isNew la lb lc j) = (0 : Int32) then (fX5_lines_C la lb lc lm n wh df me mo ms_ o_ i me2 mo2 ms2 o2 k_ K kC (fi + (0 : Int32)) (thr + (0 : Int32)) (j + 1)) else (if (fX5_isThrough la lb lc i k_ j) = (0 : Int32) then (fX5_lines_C la lb lc lm n wh df me mo ms_ o_ i me2 mo2 ms2 o2 k_ K kC (fi + (0 : Int32)) (thr + (0 : Int32)) (j + 1)) else (if k_ ≤ j then (fX5_lines_C la lb lc lm n wh df me mo ms_ o_ i me2 mo2 ms2 o2 k_ K kC (fi + (0 : Int32)) (thr + (1 : Int32)) (j + 1)) else (if j = i then (fX5_lines_C la lb lc lm n wh df me mo ms_ o_ i me2 mo2 ms2 o2 k_ K kC (fi + (0 : Int32)) (thr + (1 : Int32)) (j + 1)) else (fX5_lines_C la lb lc lm n wh df me mo ms_ o_ i me2 mo2 ms2 o2 k_ K kC (fi + (1 : Int32)) (thr + (1 : Int32)) (j + 1))))))
theorem fX5_lines_C_s (la lb lc : Nat → Int64) (lm : Int32) (n : Int32) (wh : Int32) (df : Int32) (me : Int32) (mo : Int32) (ms_ : Int32) (o_ : Int32) (i : Int32) (me2 : Int32) (mo2 : Int32) (ms2 : Int32) (o2 : Int32) (k_ : Int32) (K : Int32 → Int32 → Int32 → Int32) (kC : Nat) (fi : Int32) (thr : Int32) (j : Int32) : fX5_lines_C la lb lc lm n wh df me mo ms_ o_ i me2 mo2 ms2 o2 k_ K (kC + 1) fi thr j = (if n ≤ j then (K fi thr j) else (if (fX5_isNew la lb lc j) = (0 : Int32) then (fX5_lines_C la lb lc lm n wh df me mo ms_ o_ i me2 mo2 ms2 o2 k_ K kC (fi + (0 : Int32)) (thr + (0 : Int32)) (j + 1)) else (if (fX5_isThrough la lb lc i k_ j) = (0 : Int32) then (fX5_lines_C la lb lc lm n wh df me mo ms_ o_ i me2 mo2 ms2 o2 k_ K kC (fi + (0 : Int32)) (thr + (0 : Int32)) (j + 1)) else (if k_ ≤ j then (fX5_lines_C la lb lc lm n wh df me mo ms_ o_ i me2 mo2 ms2 o2 k_ K kC (fi + (0 : Int32)) (thr + (1 : Int32)) (j + 1)) else (if j = i then (fX5_lines_C la lb lc lm n wh df me mo ms_ o_ i me2 mo2 ms2 o2 k_ K kC (fi + (0 : Int32)) (thr + (1 : Int32)) (j + 1)) else (fX5_lines_C la lb lc lm n wh df me mo ms_ o_ i me2 mo2 ms2 o2 k_ K kC (fi + (1 : Int32)) (thr + (1 : Int32)) (j + 1))))))) := rfl
def fX5_lines_B2 (la lb lc : Nat → Int64) (lm : Int32) (n : Int32) (wh : Int32) (df : Int32) (me : Int32) (mo : Int32) (ms_ : Int32) (o_ : Int32) (i : Int32) (K : Int32 → Int32 → Int32 → Int32 → Int32 → Int32) : Nat → Int32 → Int32 → Int32 → Int32 → Int32 → Int32
  | 0, _, _, _, _, _ => 0
  | kB + 1, me2, mo2, ms2, o2, k_ => if n ≤ k_ then (K me2 mo2 ms2 o2 k_) else (if (fX5_isNew la lb lc k_) = (0 : Int32) then (fX5_lines_B2 la lb lc lm n wh df me mo ms_ o_ i K kB me2 mo2 ms2 o2 (k_ + 1)) else (if (lg_cmp (fX5_both la lb i k_) (0 : Int64)) = (0 : Int32) then (fX5_lines_B2 la lb lc lm n wh df me mo ms_ o_ i K kB me2 mo2 ms2 o2 (k_ + 1)) else (fX5_lines_C la lb lc lm n wh df me mo ms_ o_ i me2 mo2 ms2 o2 k_ (fun fi thr j => if fi = (0 : Int32) then (if thr ≤ ms2 then (fX5_lines_B2 la lb lc lm n wh df me mo ms_ o_ i K kB (me2 + 1) (mo2 + (thr - (1 : Int32))) ms2 (o2 + thr) (k_ + 1)) else (fX5_lines_B2 la lb lc lm n wh df me mo ms_ o_ i K kB (me2 + 1) (mo2 + (thr - (1 : Int32))) thr (o2 + thr) (k_ + 1))) else (fX5_lines_B2 la lb lc lm n wh df me mo ms_ o_ i K kB me2 mo2 ms2 o2 (k_ + 1))) (n.toInt.toNat + 1) (0 : Int32) (0 : Int32) (0 : Int32))))
theorem fX5_lines_B2_s (la lb lc : Nat → Int64) (lm : Int32) (n : Int32) (wh : Int32) (df : Int32) (me : Int32) (mo : Int32) (ms_ : Int32) (o_ : Int32) (i : Int32) (K : Int32 → Int32 → Int32 → Int32 → Int32 → Int32) (kB : Nat) (me2 : Int32) (mo2 : Int32) (ms2 : Int32) (o2 : Int32) (k_ : Int32) : fX5_lines_B2 la lb lc lm n wh df me mo ms_ o_ i K (kB + 1) me2 mo2 ms2 o2 k_ = (if n ≤ k_ then (K me2 mo2 ms2 o2 k_) else (if (fX5_isNew la lb lc k_) = (0 : Int32) then (fX5_lines_B2 la lb lc lm n wh df me mo ms_ o_ i K kB me2 mo2 ms2 o2 (k_ + 1)) else (if (lg_cmp (fX5_both la lb i k_) (0 : Int64)) = (0 : Int32) then (fX5_lines_B2 la lb lc lm n wh df me mo ms_ o_ i K kB me2 mo2 ms2 o2 (k_ + 1)) else (fX5_lines_C la lb lc lm n wh df me mo ms_ o_ i me2 mo2 ms2 o2 k_ (fun fi thr j => if fi = (0 : Int32) then (if thr ≤ ms2 then (fX5_lines_B2 la lb lc lm n wh df me mo ms_ o_ i K kB (me2 + 1) (mo2 + (thr - (1 : Int32))) ms2 (o2 + thr) (k_ + 1)) else (fX5_lines_B2 la lb lc lm n wh df me mo ms_ o_ i K kB (me2 + 1) (mo2 + (thr - (1 : Int32))) thr (o2 + thr) (k_ + 1))) else (fX5_lines_B2 la lb lc lm n wh df me mo ms_ o_ i K kB me2 mo2 ms2 o2 (k_ + 1))) (n.toInt.toNat + 1) (0 : Int32) (0 : Int32) (0 : Int32))))) := rfl
def fX5_lines_A (la lb lc : Nat → Int64) (lm : Int32) (n : Int32) (wh : Int32) : Nat → Int32 → Int32 → Int32 → Int32 → Int32 → Int32 → Int32
  | 0, _, _, _, _, _, _ => 0
  | kA + 1, df, me, mo, ms_, o_, i => if n ≤ i then (if wh = (0 : Int32) then (df) else (if wh = (1 : Int32) then (me) else (if wh = (2 : Int32) then (((1 : Int32) + df) + mo) else (if wh = (3 : Int32) then (df + o_) else (if wh = (4 : Int32) then (if me = (0 : Int32) then ((0 : Int32)) else ((((1 : Int32) + df) + mo) - ((2 : Int32) * df))) else (ms_)))))) else (if (fX5_isNew la lb lc i) = (0 : Int32) then (fX5_lines_B la lb lc lm n wh df me mo ms_ o_ i (fun me2 mo2 ms2 o2 k_ => fX5_lines_A la lb lc lm n wh kA (df + (0 : Int32)) me2 mo2 ms2 o2 (i + 1)) (n.toInt.toNat + 1) me mo ms_ o_ (i + (1 : Int32))) else (fX5_lines_B2 la lb lc lm n wh df me mo ms_ o_ i (fun me2 mo2 ms2 o2 k_ => fX5_lines_A la lb lc lm n wh kA (df + (1 : Int32)) me2 mo2 ms2 o2 (i + 1)) (n.toInt.toNat + 1) me mo ms_ o_ (i + (1 : Int32))))
theorem fX5_lines_A_s (la lb lc : Nat → Int64) (lm : Int32) (n : Int32) (wh : Int32) (kA : Nat) (df : Int32) (me : Int32) (mo : Int32) (ms_ : Int32) (o_ : Int32) (i : Int32) : fX5_lines_A la lb lc lm n wh  (kA + 1) df me mo ms_ o_ i = (if n ≤ i then (if wh = (0 : Int32) then (df) else (if wh = (1 : Int32) then (me) else (if wh = (2 : Int32) then (((1 : Int32) + df) + mo) else (if wh = (3 : Int32) then (df + o_) else (if wh = (4 : Int32) then (if me = (0 : Int32) then ((0 : Int32)) else ((((1 : Int32) + df) + mo) - ((2 : Int32) * df))) else (ms_)))))) else (if (fX5_isNew la lb lc i) = (0 : Int32) then (fX5_lines_B la lb lc lm n wh df me mo ms_ o_ i (fun me2 mo2 ms2 o2 k_ => fX5_lines_A la lb lc lm n wh kA (df + (0 : Int32)) me2 mo2 ms2 o2 (i + 1)) (n.toInt.toNat + 1) me mo ms_ o_ (i + (1 : Int32))) else (fX5_lines_B2 la lb lc lm n wh df me mo ms_ o_ i (fun me2 mo2 ms2 o2 k_ => fX5_lines_A la lb lc lm n wh kA (df + (1 : Int32)) me2 mo2 ms2 o2 (i + 1)) (n.toInt.toNat + 1) me mo ms_ o_ (i + (1 : Int32))))) := rfl
def fX5_lines (la lb lc : Nat → Int64) (lm : Int32) (n : Int32) (wh : Int32) : Int32 := if n < (0 : Int32) then ((-2 : Int32)) else (if lm < n then ((-2 : Int32)) else (if wh < (0 : Int32) then ((-2 : Int32)) else (if wh ≤ (5 : Int32) then (fX5_lines_A la lb lc lm n wh (n.toInt.toNat + 1) (0 : Int32) (0 : Int32) (0 : Int32) (0 : Int32) (0 : Int32) (0 : Int32)) else ((-2 : Int32)))))
set_option maxHeartbeats 4000000 in
set_option maxRecDepth 100000 in
theorem ct5_lines (l : Launch) (D : va_G) (sz : Nat) (m1 m2 m3 m4 m5 m6 m7 : Nat) (kI kJ : ClassId) (xs ys held : Nat → Int32) (la lb lc : Nat → Int64) (th pm rm on cl un ze lm : Int32) (n : Int32) (wh : Int32) (olm : lm.toInt ≤ (12 : Nat)) : Met l yX5_lines (Cond.code yX5_lines cX5_lines 14 (some .int) :: BY) ({ frames := 4, cells := 0, slots := 0, locals := 240 }) (xw_P nN D vwCl [(kI, .int), (kJ, .long)] (wMo m1 m2 m3 m4 m5 m6 m7 kI kJ xs ys held la lb lc th pm rm on cl un ze lm) sz [.ref m1, .int n, .int wh]) (xw_Q D vwCl (some (.int (fX5_lines la lb lc lm n wh))) (wMo m1 m2 m3 m4 m5 m6 m7 kI kJ xs ys held la lb lc th pm rm on cl un ze lm) (wMo m1 m2 m3 m4 m5 m6 m7 kI kJ xs ys held la lb lc (0 : Int32) pm rm on cl un ze lm) sz) 0 0 (va_A (wMo m1 m2 m3 m4 m5 m6 m7 kI kJ xs ys held la lb lc th pm rm on cl un ze lm) sz) := by
  refine Met.ofW (cc := cX5_lines) (maxL := 14) (ret := (some .int)) (by decide) rfl ?_
  intro p e s m args below meth c s₁ B hml hv
  obtain ⟨rfl, hsz, hP, hK, hN, hD0⟩ := hv
  have hx := B.exec
  have hb := B.bytes
  have hr := B.returns
  have hts0 := atoms_spec (ws := Cond.code yX5_lines cX5_lines 14 (some .int) :: BY) B.pre
  have hts : ∀ w ∈ BY, w.before _ s = true := fun w h => hts0 w (List.mem_cons_of_mem _ h)
  have hown : s.vm.findClass RX5 = some m.cls := findClass_of_methodNamed B.named
  have hlocks := B.notSynchronized
  subst hsz
  have hD := hD0.self (sz := s.heap.size)
  generalize hAe : va_A (wMo m1 m2 m3 m4 m5 m6 m7 kI kJ xs ys held la lb lc th pm rm on cl un ze lm) s.heap.size = A at hD ⊢
  have hA : ∀ q : Nat, s.heap.size ≤ q → A q := fun q h => by rw [← hAe]; exact Or.inr h
  have hS : va_S A s.heap s.heap [] := va_S.rf
  have hP : va_P D vwCl [(m1, .inr (9, [.int th, .int pm, .ref m2, .ref m3, .int rm, .ref m4, .int on, .int cl, .int un, .int ze, .int lm, .ref m5, .ref m6, .ref m7])), (m2, .inl (kI, 60, .inl xs)), (m3, .inl (kI, 60, .inl ys)), (m4, .inl (kI, 24, .inl held)), (m5, .inl (kJ, 12, .inr (.inl la))), (m6, .inl (kJ, 12, .inr (.inl lb))), (m7, .inl (kJ, 12, .inr (.inl lc)))] s.heap := hP
  have hD : va_D A [(m1, .inr (9, [.int th, .int pm, .ref m2, .ref m3, .int rm, .ref m4, .int on, .int cl, .int un, .int ze, .int lm, .ref m5, .ref m6, .ref m7])), (m2, .inl (kI, 60, .inl xs)), (m3, .inl (kI, 60, .inl ys)), (m4, .inl (kI, 24, .inl held)), (m5, .inl (kJ, 12, .inr (.inl la))), (m6, .inl (kJ, 12, .inr (.inl lb))), (m7, .inl (kJ, 12, .inr (.inl lc)))] := hD
  have hl := lv_entry ([.ref m1, .int n, .int wh]) (n := 14) (Nat.le_of_ble_eq_true rfl)
  rw [lg_entry_eq]
  generalize (lg_sl ([.ref m1, .int n, .int wh]) ++ List.replicate (14 - (lg_sl ([.ref m1, .int n, .int wh])).length) Slot.unset).toArray = ls at hl ⊢
  have hl : lv_has ls 14 [(0, .ref m1), (1, .int n), (2, .int wh)] := hl
  refine lv_aload_n hx hb dX5_lines_0 rfl (lv_at hl 0 rfl) ?_
  refine lv_iconst (v := 0) hx hb dX5_lines_1 (by decide) ?_
  refine va_put (D := D) (ci := 9) (v := .int (0 : Int32)) (ty := .int) (C := RX5) (T := TX5) (N := 14) hx hb hts hinX5 tyX5 tyX5_ok nmX5 hown hK hP hD hS 0 rfl rfl 0 (by decide) (hts _ fk_X5_1) (fun _ h9 => h9) rfl (by decide +kernel) rfl rfl (Nat.le_of_ble_eq_true rfl) dX5_lines_2 (fun H locs hP hD hS => ?_)
  have hP : va_P D vwCl [(m1, .inr (9, [.int (0 : Int32), .int pm, .ref m2, .ref m3, .int rm, .ref m4, .int on, .int cl, .int un, .int ze, .int lm, .ref m5, .ref m6, .ref m7])), (m2, .inl (kI, 60, .inl xs)), (m3, .inl (kI, 60, .inl ys)), (m4, .inl (kI, 24, .inl held)), (m5, .inl (kJ, 12, .inr (.inl la))), (m6, .inl (kJ, 12, .inr (.inl lb))), (m7, .inl (kJ, 12, .inr (.inl lc)))] H := hP
  have hD : va_D A [(m1, .inr (9, [.int (0 : Int32), .int pm, .ref m2, .ref m3, .int rm, .ref m4, .int on, .int cl, .int un, .int ze, .int lm, .ref m5, .ref m6, .ref m7])), (m2, .inl (kI, 60, .inl xs)), (m3, .inl (kI, 60, .inl ys)), (m4, .inl (kI, 24, .inl held)), (m5, .inl (kJ, 12, .inr (.inl la))), (m6, .inl (kJ, 12, .inr (.inl lb))), (m7, .inl (kJ, 12, .inr (.inl lc)))] := hD
  refine lv_iload_n hx hb dX5_lines_5 rfl (lv_at hl 1 rfl) ?_
  refine lv_if_lt (tgt := 26) hx hb dX5_lines_6 (by decide) (fun c1 => ?_) (fun c1 => ?_)
  · refine lv_bipush (v := (-2)) hx hb dX5_lines_26 (by decide) ?_
    have hP9 := hP
    have hD9 := hD
    have hS9 := hS
    have qv : fX5_lines la lb lc lm n wh = (-2 : Int32) := by unfold fX5_lines; rw [if_pos c1]
    rw [qv]
    exact W.iret (v := (-2 : Int32)) hx hb hr (fun t ht hW => ⟨⟨rfl, by rw [ht]; exact hP9, by rw [hAe]; exact hD9⟩, by rw [hAe]; exact hS9.F ht⟩) hS9.2.2 dX5_lines_28
  · refine lv_iload_n hx hb dX5_lines_9 rfl (lv_at hl 1 rfl) ?_
    refine lv_aload_n hx hb dX5_lines_10 rfl (lv_at hl 0 rfl) ?_
    refine va_get (D := D) (ci := 9) (v := .int lm) (C := RX5) (T := TX5) (N := 14) hx hb hts hinX5 hown hK hP 0 rfl rfl 10 (by decide) (hts _ fk_X5_168) (fun _ h9 => h9) rfl dX5_lines_11 ?_
    refine lv_icmp_gt (tgt := 26) hx hb dX5_lines_14 (by decide) (fun c2 => ?_) (fun c2 => ?_)
    · refine lv_bipush (v := (-2)) hx hb dX5_lines_26 (by decide) ?_
      have hP9 := hP
      have hD9 := hD
      have hS9 := hS
      have qv : fX5_lines la lb lc lm n wh = (-2 : Int32) := by unfold fX5_lines; rw [if_neg c1, if_pos c2]
      rw [qv]
      exact W.iret (v := (-2 : Int32)) hx hb hr (fun t ht hW => ⟨⟨rfl, by rw [ht]; exact hP9, by rw [hAe]; exact hD9⟩, by rw [hAe]; exact hS9.F ht⟩) hS9.2.2 dX5_lines_28
    · refine lv_iload_n hx hb dX5_lines_17 rfl (lv_at hl 2 rfl) ?_
      refine lv_if_lt (tgt := 26) hx hb dX5_lines_18 (by decide) (fun c3 => ?_) (fun c3 => ?_)
      · refine lv_bipush (v := (-2)) hx hb dX5_lines_26 (by decide) ?_
        have hP9 := hP
        have hD9 := hD
        have hS9 := hS
        have qv : fX5_lines la lb lc lm n wh = (-2 : Int32) := by unfold fX5_lines; rw [if_neg c1, if_neg c2, if_pos c3]
        rw [qv]
        exact W.iret (v := (-2 : Int32)) hx hb hr (fun t ht hW => ⟨⟨rfl, by rw [ht]; exact hP9, by rw [hAe]; exact hD9⟩, by rw [hAe]; exact hS9.F ht⟩) hS9.2.2 dX5_lines_28
      · refine lv_iload_n hx hb dX5_lines_21 rfl (lv_at hl 2 rfl) ?_
        refine lv_iconst (v := 5) hx hb dX5_lines_22 (by decide) ?_
        refine lv_icmp_le (tgt := 29) hx hb dX5_lines_23 (by decide) (fun c4 => ?_) (fun c4 => ?_)
        · refine lv_iconst (v := 0) hx hb dX5_lines_29 (by decide) ?_
          refine lv_istore_n (lv' := [(3, .int (0 : Int32)), (0, .ref m1), (1, .int n), (2, .int wh)]) hx hb dX5_lines_30 rfl hl (by decide) rfl (fun ls hl => ?_)
          refine lv_iconst (v := 0) hx hb dX5_lines_31 (by decide) ?_
          refine lv_istore (lv' := [(4, .int (0 : Int32)), (3, .int (0 : Int32)), (0, .ref m1), (1, .int n), (2, .int wh)]) hx hb dX5_lines_32 hl (by decide) rfl (fun ls hl => ?_)
          refine lv_iconst (v := 0) hx hb dX5_lines_34 (by decide) ?_
          refine lv_istore (lv' := [(5, .int (0 : Int32)), (4, .int (0 : Int32)), (3, .int (0 : Int32)), (0, .ref m1), (1, .int n), (2, .int wh)]) hx hb dX5_lines_35 hl (by decide) rfl (fun ls hl => ?_)
          refine lv_iconst (v := 0) hx hb dX5_lines_37 (by decide) ?_
          refine lv_istore (lv' := [(6, .int (0 : Int32)), (5, .int (0 : Int32)), (4, .int (0 : Int32)), (3, .int (0 : Int32)), (0, .ref m1), (1, .int n), (2, .int wh)]) hx hb dX5_lines_38 hl (by decide) rfl (fun ls hl => ?_)
          refine lv_iconst (v := 0) hx hb dX5_lines_40 (by decide) ?_
          refine lv_istore (lv' := [(7, .int (0 : Int32)), (6, .int (0 : Int32)), (5, .int (0 : Int32)), (4, .int (0 : Int32)), (3, .int (0 : Int32)), (0, .ref m1), (1, .int n), (2, .int wh)]) hx hb dX5_lines_41 hl (by decide) rfl (fun ls hl => ?_)
          refine lv_iconst (v := 0) hx hb dX5_lines_43 (by decide) ?_
          refine lv_istore (lv' := [(8, .int (0 : Int32)), (7, .int (0 : Int32)), (6, .int (0 : Int32)), (5, .int (0 : Int32)), (4, .int (0 : Int32)), (3, .int (0 : Int32)), (0, .ref m1), (1, .int n), (2, .int wh)]) hx hb dX5_lines_44 hl (by decide) rfl (fun ls hl => ?_)
          refine xr_l6 (P := fun ls => W p l e _ s m _ below meth c _ _ _ _ _ (F0 m 46 ls [])) (nL := 14) (fun (df : Int32) (me : Int32) (mo : Int32) (ms_ : Int32) (o_ : Int32) (i : Int32) => [(8, .int i), (7, .int o_), (6, .int ms_), (5, .int mo), (4, .int me), (3, .int df), (0, .ref m1), (1, .int n), (2, .int wh)]) (fun kA (df : Int32) (me : Int32) (mo : Int32) (ms_ : Int32) (o_ : Int32) (i : Int32) => xr_u n i kA ∧ fX5_lines_A la lb lc lm n wh kA df me mo ms_ o_ i = fX5_lines la lb lc lm n wh) (fun _ _ _ _ _ _ h => xr_u0 h.1) ?_ (n.toInt.toNat + 1) (0 : Int32) (0 : Int32) (0 : Int32) (0 : Int32) (0 : Int32) (0 : Int32) ls hl ⟨(xr_ub n), (by unfold fX5_lines; rw [if_neg c1, if_neg c2, if_neg c3, if_pos c4])⟩
          clear hl
          intro kA df me mo ms_ o_ i ls hl hI ihA
          obtain ⟨huA, hLA⟩ := hI
          refine lv_iload hx hb dX5_lines_46 (lv_at hl 0 rfl) ?_
          refine lv_iload_n hx hb dX5_lines_48 rfl (lv_at hl 7 rfl) ?_
          refine lv_icmp_ge (tgt := 261) hx hb dX5_lines_49 (by decide) (fun c5 => ?_) (fun c5 => ?_)
          · refine lv_iconst (v := 1) hx hb dX5_lines_261 (by decide) ?_
            refine lv_iload_n hx hb dX5_lines_262 rfl (lv_at hl 5 rfl) ?_
            refine lv_iadd hx hb dX5_lines_263 ?_
            refine lv_iload hx hb dX5_lines_264 (lv_at hl 3 rfl) ?_
            refine lv_iadd hx hb dX5_lines_266 ?_
            refine lv_istore (lv' := [(8, .int (((1 : Int32) + df) + mo)), (7, .int o_), (6, .int ms_), (5, .int mo), (4, .int me), (3, .int df), (0, .ref m1), (1, .int n), (2, .int wh)]) hx hb dX5_lines_267 hl (by decide) rfl (fun ls hl => ?_)
            refine lv_iload_n hx hb dX5_lines_269 rfl (lv_at hl 8 rfl) ?_
            by_cases c6 : wh = (0 : Int32)
            · refine lv_tableIn (off := 34) (tgt := 304) hx hb dX5_lines_270 (by rw [c6]; decide) (by rw [c6]; decide) (by rw [c6]; rfl) rfl ?_
              refine lv_iload_n hx hb dX5_lines_304 rfl (lv_at hl 5 rfl) ?_
              have hP9 := hP
              have hD9 := hD
              have hS9 := hS
              have qv : fX5_lines la lb lc lm n wh = df := by rw [← hLA, fX5_lines_A_s, if_pos c5, if_pos c6]
              rw [qv]
              exact W.iret (v := df) hx hb hr (fun t ht hW => ⟨⟨rfl, by rw [ht]; exact hP9, by rw [hAe]; exact hD9⟩, by rw [hAe]; exact hS9.F ht⟩) hS9.2.2 dX5_lines_305
            · by_cases c7 : wh = (1 : Int32)
              · refine lv_tableIn (off := 36) (tgt := 306) hx hb dX5_lines_270 (by rw [c7]; decide) (by rw [c7]; decide) (by rw [c7]; rfl) rfl ?_
                refine lv_iload hx hb dX5_lines_306 (lv_at hl 4 rfl) ?_
                have hP9 := hP
                have hD9 := hD
                have hS9 := hS
                have qv : fX5_lines la lb lc lm n wh = me := by rw [← hLA, fX5_lines_A_s, if_pos c5, if_neg c6, if_pos c7]
                rw [qv]
                exact W.iret (v := me) hx hb hr (fun t ht hW => ⟨⟨rfl, by rw [ht]; exact hP9, by rw [hAe]; exact hD9⟩, by rw [hAe]; exact hS9.F ht⟩) hS9.2.2 dX5_lines_308
              · by_cases c8 : wh = (2 : Int32)
                · refine lv_tableIn (off := 39) (tgt := 309) hx hb dX5_lines_270 (by rw [c8]; decide) (by rw [c8]; decide) (by rw [c8]; rfl) rfl ?_
                  refine lv_iload hx hb dX5_lines_309 (lv_at hl 0 rfl) ?_
                  have hP9 := hP
                  have hD9 := hD
                  have hS9 := hS
                  have qv : fX5_lines la lb lc lm n wh = ((1 : Int32) + df) + mo := by rw [← hLA, fX5_lines_A_s, if_pos c5, if_neg c6, if_neg c7, if_pos c8]
                  rw [qv]
                  exact W.iret (v := ((1 : Int32) + df) + mo) hx hb hr (fun t ht hW => ⟨⟨rfl, by rw [ht]; exact hP9, by rw [hAe]; exact hD9⟩, by rw [hAe]; exact hS9.F ht⟩) hS9.2.2 dX5_lines_311
                · by_cases c9 : wh = (3 : Int32)
                  · refine lv_tableIn (off := 42) (tgt := 312) hx hb dX5_lines_270 (by rw [c9]; decide) (by rw [c9]; decide) (by rw [c9]; rfl) rfl ?_
                    refine lv_iload_n hx hb dX5_lines_312 rfl (lv_at hl 5 rfl) ?_
                    refine lv_iload hx hb dX5_lines_313 (lv_at hl 1 rfl) ?_
                    refine lv_iadd hx hb dX5_lines_315 ?_
                    have hP9 := hP
                    have hD9 := hD
                    have hS9 := hS
                    have qv : fX5_lines la lb lc lm n wh = df + o_ := by rw [← hLA, fX5_lines_A_s, if_pos c5, if_neg c6, if_neg c7, if_neg c8, if_pos c9]
                    rw [qv]
                    exact W.iret (v := df + o_) hx hb hr (fun t ht hW => ⟨⟨rfl, by rw [ht]; exact hP9, by rw [hAe]; exact hD9⟩, by rw [hAe]; exact hS9.F ht⟩) hS9.2.2 dX5_lines_316
                  · by_cases c10 : wh = (4 : Int32)
                    · refine lv_tableIn (off := 47) (tgt := 317) hx hb dX5_lines_270 (by rw [c10]; decide) (by rw [c10]; decide) (by rw [c10]; rfl) rfl ?_
                      refine lv_iload hx hb dX5_lines_317 (lv_at hl 4 rfl) ?_
                      refine lv_if_ne (tgt := 326) hx hb dX5_lines_319 (by decide) (fun c11 => ?_) (fun c11 => ?_)
                      · refine lv_iload hx hb dX5_lines_326 (lv_at hl 0 rfl) ?_
                        refine lv_iconst (v := 2) hx hb dX5_lines_328 (by decide) ?_
                        refine lv_iload_n hx hb dX5_lines_329 rfl (lv_at hl 5 rfl) ?_
                        refine lv_imul hx hb dX5_lines_330 ?_
                        refine lv_isub hx hb dX5_lines_331 ?_
                        have hP9 := hP
                        have hD9 := hD
                        have hS9 := hS
                        have qv : fX5_lines la lb lc lm n wh = (((1 : Int32) + df) + mo) - ((2 : Int32) * df) := by rw [← hLA, fX5_lines_A_s, if_pos c5, if_neg c6, if_neg c7, if_neg c8, if_neg c9, if_pos c10, if_neg c11]
                        rw [qv]
                        exact W.iret (v := (((1 : Int32) + df) + mo) - ((2 : Int32) * df)) hx hb hr (fun t ht hW => ⟨⟨rfl, by rw [ht]; exact hP9, by rw [hAe]; exact hD9⟩, by rw [hAe]; exact hS9.F ht⟩) hS9.2.2 dX5_lines_332
                      · refine lv_iconst (v := 0) hx hb dX5_lines_322 (by decide) ?_
                        refine lv_goto (tgt := 332) hx hb dX5_lines_323 (by decide) ?_
                        have hP9 := hP
                        have hD9 := hD
                        have hS9 := hS
                        have qv : fX5_lines la lb lc lm n wh = (0 : Int32) := by rw [← hLA, fX5_lines_A_s, if_pos c5, if_neg c6, if_neg c7, if_neg c8, if_neg c9, if_pos c10, if_pos c11]
                        rw [qv]
                        exact W.iret (v := (0 : Int32)) hx hb hr (fun t ht hW => ⟨⟨rfl, by rw [ht]; exact hP9, by rw [hAe]; exact hD9⟩, by rw [hAe]; exact hS9.F ht⟩) hS9.2.2 dX5_lines_332
                    · refine lv_tableOut (tgt := 333) hx hb dX5_lines_270 (by have g0 : ¬ wh.toInt = 0 := fun h9 => c6 (Int32.toInt_inj.mp h9); have g1 : ¬ wh.toInt = 1 := fun h9 => c7 (Int32.toInt_inj.mp h9); have g2 : ¬ wh.toInt = 2 := fun h9 => c8 (Int32.toInt_inj.mp h9); have g3 : ¬ wh.toInt = 3 := fun h9 => c9 (Int32.toInt_inj.mp h9); have g4 : ¬ wh.toInt = 4 := fun h9 => c10 (Int32.toInt_inj.mp h9); omega) rfl ?_
                      refine lv_iload hx hb dX5_lines_333 (lv_at hl 2 rfl) ?_
                      have hP9 := hP
                      have hD9 := hD
                      have hS9 := hS
                      have qv : fX5_lines la lb lc lm n wh = ms_ := by rw [← hLA, fX5_lines_A_s, if_pos c5, if_neg c6, if_neg c7, if_neg c8, if_neg c9, if_neg c10]
                      rw [qv]
                      exact W.iret (v := ms_) hx hb hr (fun t ht hW => ⟨⟨rfl, by rw [ht]; exact hP9, by rw [hAe]; exact hD9⟩, by rw [hAe]; exact hS9.F ht⟩) hS9.2.2 dX5_lines_335
          · refine lv_iload_n hx hb dX5_lines_52 rfl (lv_at hl 5 rfl) ?_
            refine lv_aload_n hx hb dX5_lines_53 rfl (lv_at hl 6 rfl) ?_
            refine lv_iload hx hb dX5_lines_54 (lv_at hl 0 rfl) ?_
            refine xr_V (q := (RX5, TX5, 14)) (ci := 9) (q0 := 0) (rest := [.int df]) (As := [.int i]) ⟨hx, hb, hml, hown, hts⟩ (ct5_isNew l D m1 m2 m3 m4 m5 m6 m7 kI kJ xs ys held la lb lc (0 : Int32) pm rm on cl un ze lm i (xr_in huA c5 (o_nl olm c2))) (cwV 1 hts gl_X5_177 rfl rfl rfl (by decide +kernel) ⟨Nat.le_of_ble_eq_true rfl, Nat.le_of_ble_eq_true rfl⟩) nN_mv hN hK hP [0, 1, 2, 3, 4, 5, 6] [0, 1] rfl rfl rfl rfl rfl hl.1 rfl (Nat.le_of_ble_eq_true rfl) dX5_lines_56 ⟨Nat.le_of_ble_eq_true rfl, Nat.le_of_ble_eq_true rfl⟩ ?_
            refine lv_if_eq (tgt := 66) hx hb dX5_lines_59 (by decide) (fun c12 => ?_) (fun c12 => ?_)
            · refine lv_iconst (v := 0) hx hb dX5_lines_66 (by decide) ?_
              refine lv_iadd hx hb dX5_lines_67 ?_
              refine lv_istore_n (lv' := [(3, .int (df + (0 : Int32))), (8, .int i), (7, .int o_), (6, .int ms_), (5, .int mo), (4, .int me), (0, .ref m1), (1, .int n), (2, .int wh)]) hx hb dX5_lines_68 rfl hl (by decide) rfl (fun ls hl => ?_)
              refine lv_iload hx hb dX5_lines_69 (lv_at hl 1 rfl) ?_
              refine lv_iconst (v := 1) hx hb dX5_lines_71 (by decide) ?_
              refine lv_iadd hx hb dX5_lines_72 ?_
              refine lv_istore (lv' := [(9, .int (i + (1 : Int32))), (3, .int (df + (0 : Int32))), (8, .int i), (7, .int o_), (6, .int ms_), (5, .int mo), (4, .int me), (0, .ref m1), (1, .int n), (2, .int wh)]) hx hb dX5_lines_73 hl (by decide) rfl (fun ls hl => ?_)
              refine xr_l5 (P := fun ls => W p l e _ s m _ below meth c _ _ _ _ _ (F0 m 75 ls [])) (nL := 14) (fun (me2 : Int32) (mo2 : Int32) (ms2 : Int32) (o2 : Int32) (k_ : Int32) => [(9, .int k_), (3, .int (df + (0 : Int32))), (8, .int i), (7, .int o2), (6, .int ms2), (5, .int mo2), (4, .int me2), (0, .ref m1), (1, .int n), (2, .int wh)]) (fun kB (me2 : Int32) (mo2 : Int32) (ms2 : Int32) (o2 : Int32) (k_ : Int32) => xr_u n k_ kB ∧ fX5_lines_B la lb lc lm n wh df me mo ms_ o_ i (fun me2 mo2 ms2 o2 k_ => fX5_lines_A la lb lc lm n wh kA (df + (0 : Int32)) me2 mo2 ms2 o2 (i + 1)) kB me2 mo2 ms2 o2 k_ = fX5_lines la lb lc lm n wh) (fun _ _ _ _ _ h => xr_u0 h.1) ?_ (n.toInt.toNat + 1) me mo ms_ o_ (i + (1 : Int32)) ls hl ⟨(xr_ub1 huA c5), (by rw [← hLA, fX5_lines_A_s, if_neg c5, if_pos c12])⟩
              clear hl
              intro kB me2 mo2 ms2 o2 k_ ls hl hI ihB
              obtain ⟨huB, hLB⟩ := hI
              refine lv_iload hx hb dX5_lines_75 (lv_at hl 0 rfl) ?_
              refine lv_iload_n hx hb dX5_lines_77 rfl (lv_at hl 8 rfl) ?_
              refine lv_icmp_ge (tgt := 255) hx hb dX5_lines_78 (by decide) (fun c13 => ?_) (fun c13 => ?_)
              · obtain ⟨z14, ez14⟩ : ∃ y : Int32, y = i + 1 := ⟨_, rfl⟩
                refine lv_iinc (v := z14) (lv' := [(8, .int z14), (9, .int k_), (3, .int (df + (0 : Int32))), (7, .int o2), (6, .int ms2), (5, .int mo2), (4, .int me2), (0, .ref m1), (1, .int n), (2, .int wh)]) hx hb dX5_lines_255 hl (k := 2) rfl (by rw [ez14]; rfl) (by decide) rfl (fun ls hl => ?_)
                refine lv_goto (tgt := 46) hx hb dX5_lines_258 (by decide) ?_
                have hl9 := hl
                subst ez14
                exact ihA (df + (0 : Int32)) me2 mo2 ms2 o2 (i + 1) _ (lv_sub hl9 [0, 3, 4, 5, 6, 2, 7, 8, 9] rfl) ⟨xr_us huA c5, by rw [← hLB, fX5_lines_B_s, if_pos c13]⟩
              · refine lv_aload_n hx hb dX5_lines_81 rfl (lv_at hl 7 rfl) ?_
                refine lv_iload hx hb dX5_lines_82 (lv_at hl 2 rfl) ?_
                refine xr_V (q := (RX5, TX5, 14)) (ci := 9) (q0 := 0) (rest := []) (As := [.int i]) ⟨hx, hb, hml, hown, hts⟩ (ct5_isNew l D m1 m2 m3 m4 m5 m6 m7 kI kJ xs ys held la lb lc (0 : Int32) pm rm on cl un ze lm i (xr_in huA c5 (o_nl olm c2))) (cwV 1 hts gl_X5_177 rfl rfl rfl (by decide +kernel) ⟨Nat.le_of_ble_eq_true rfl, Nat.le_of_ble_eq_true rfl⟩) nN_mv hN hK hP [0, 1, 2, 3, 4, 5, 6] [0, 1] rfl rfl rfl rfl rfl hl.1 rfl (Nat.le_of_ble_eq_true rfl) dX5_lines_84 ⟨Nat.le_of_ble_eq_true rfl, Nat.le_of_ble_eq_true rfl⟩ ?_
                refine lv_if_eq (tgt := 249) hx hb dX5_lines_87 (by decide) (fun c15 => ?_) (fun c15 => ?_)
                · obtain ⟨z16, ez16⟩ : ∃ y : Int32, y = k_ + 1 := ⟨_, rfl⟩
                  refine lv_iinc (v := z16) (lv' := [(9, .int z16), (3, .int (df + (0 : Int32))), (8, .int i), (7, .int o2), (6, .int ms2), (5, .int mo2), (4, .int me2), (0, .ref m1), (1, .int n), (2, .int wh)]) hx hb dX5_lines_249 hl (k := 0) rfl (by rw [ez16]; rfl) (by decide) rfl (fun ls hl => ?_)
                  refine lv_goto (tgt := 75) hx hb dX5_lines_252 (by decide) ?_
                  have hl9 := hl
                  subst ez16
                  exact ihB me2 mo2 ms2 o2 (k_ + 1) _ (lv_sub hl9 [0, 1, 2, 3, 4, 5, 6, 7, 8, 9] rfl) ⟨xr_us huB c13, by rw [← hLB, fX5_lines_B_s, if_neg c13]⟩
                · exact absurd c12 c15
            · refine lv_iconst (v := 1) hx hb dX5_lines_62 (by decide) ?_
              refine lv_goto (tgt := 67) hx hb dX5_lines_63 (by decide) ?_
              refine lv_iadd hx hb dX5_lines_67 ?_
              refine lv_istore_n (lv' := [(3, .int (df + (1 : Int32))), (8, .int i), (7, .int o_), (6, .int ms_), (5, .int mo), (4, .int me), (0, .ref m1), (1, .int n), (2, .int wh)]) hx hb dX5_lines_68 rfl hl (by decide) rfl (fun ls hl => ?_)
              refine lv_iload hx hb dX5_lines_69 (lv_at hl 1 rfl) ?_
              refine lv_iconst (v := 1) hx hb dX5_lines_71 (by decide) ?_
              refine lv_iadd hx hb dX5_lines_72 ?_
              refine lv_istore (lv' := [(9, .int (i + (1 : Int32))), (3, .int (df + (1 : Int32))), (8, .int i), (7, .int o_), (6, .int ms_), (5, .int mo), (4, .int me), (0, .ref m1), (1, .int n), (2, .int wh)]) hx hb dX5_lines_73 hl (by decide) rfl (fun ls hl => ?_)
              refine xr_l5 (P := fun ls => W p l e _ s m _ below meth c _ _ _ _ _ (F0 m 75 ls [])) (nL := 14) (fun (me2 : Int32) (mo2 : Int32) (ms2 : Int32) (o2 : Int32) (k_ : Int32) => [(9, .int k_), (3, .int (df + (1 : Int32))), (8, .int i), (7, .int o2), (6, .int ms2), (5, .int mo2), (4, .int me2), (0, .ref m1), (1, .int n), (2, .int wh)]) (fun kB (me2 : Int32) (mo2 : Int32) (ms2 : Int32) (o2 : Int32) (k_ : Int32) => xr_u n k_ kB ∧ fX5_lines_B2 la lb lc lm n wh df me mo ms_ o_ i (fun me2 mo2 ms2 o2 k_ => fX5_lines_A la lb lc lm n wh kA (df + (1 : Int32)) me2 mo2 ms2 o2 (i + 1)) kB me2 mo2 ms2 o2 k_ = fX5_lines la lb lc lm n wh) (fun _ _ _ _ _ h => xr_u0 h.1) ?_ (n.toInt.toNat + 1) me mo ms_ o_ (i + (1 : Int32)) ls hl ⟨(xr_ub1 huA c5), (by rw [← hLA, fX5_lines_A_s, if_neg c5, if_neg c12])⟩
              clear hl
              intro kB me2 mo2 ms2 o2 k_ ls hl hI ihB
              obtain ⟨huB, hLB⟩ := hI
              refine lv_iload hx hb dX5_lines_75 (lv_at hl 0 rfl) ?_
              refine lv_iload_n hx hb dX5_lines_77 rfl (lv_at hl 8 rfl) ?_
              refine lv_icmp_ge (tgt := 255) hx hb dX5_lines_78 (by decide) (fun c17 => ?_) (fun c17 => ?_)
              · obtain ⟨z18, ez18⟩ : ∃ y : Int32, y = i + 1 := ⟨_, rfl⟩
                refine lv_iinc (v := z18) (lv' := [(8, .int z18), (9, .int k_), (3, .int (df + (1 : Int32))), (7, .int o2), (6, .int ms2), (5, .int mo2), (4, .int me2), (0, .ref m1), (1, .int n), (2, .int wh)]) hx hb dX5_lines_255 hl (k := 2) rfl (by rw [ez18]; rfl) (by decide) rfl (fun ls hl => ?_)
                refine lv_goto (tgt := 46) hx hb dX5_lines_258 (by decide) ?_
                have hl9 := hl
                subst ez18
                exact ihA (df + (1 : Int32)) me2 mo2 ms2 o2 (i + 1) _ (lv_sub hl9 [0, 3, 4, 5, 6, 2, 7, 8, 9] rfl) ⟨xr_us huA c5, by rw [← hLB, fX5_lines_B2_s, if_pos c17]⟩
              · refine lv_aload_n hx hb dX5_lines_81 rfl (lv_at hl 7 rfl) ?_
                refine lv_iload hx hb dX5_lines_82 (lv_at hl 2 rfl) ?_
                refine xr_V (q := (RX5, TX5, 14)) (ci := 9) (q0 := 0) (rest := []) (As := [.int i]) ⟨hx, hb, hml, hown, hts⟩ (ct5_isNew l D m1 m2 m3 m4 m5 m6 m7 kI kJ xs ys held la lb lc (0 : Int32) pm rm on cl un ze lm i (xr_in huA c5 (o_nl olm c2))) (cwV 1 hts gl_X5_177 rfl rfl rfl (by decide +kernel) ⟨Nat.le_of_ble_eq_true rfl, Nat.le_of_ble_eq_true rfl⟩) nN_mv hN hK hP [0, 1, 2, 3, 4, 5, 6] [0, 1] rfl rfl rfl rfl rfl hl.1 rfl (Nat.le_of_ble_eq_true rfl) dX5_lines_84 ⟨Nat.le_of_ble_eq_true rfl, Nat.le_of_ble_eq_true rfl⟩ ?_
                refine lv_if_eq (tgt := 249) hx hb dX5_lines_87 (by decide) (fun c19 => ?_) (fun c19 => ?_)
                · exact absurd c19 c12
                · refine lv_aload_n hx hb dX5_lines_90 rfl (lv_at hl 7 rfl) ?_
                  refine lv_iload hx hb dX5_lines_91 (lv_at hl 0 rfl) ?_
                  refine xr_V (q := (RX5, TX5, 14)) (ci := 9) (q0 := 0) (rest := []) (As := [.int k_]) ⟨hx, hb, hml, hown, hts⟩ (ct5_isNew l D m1 m2 m3 m4 m5 m6 m7 kI kJ xs ys held la lb lc (0 : Int32) pm rm on cl un ze lm k_ (xr_in huB c17 (o_nl olm c2))) (cwV 1 hts gl_X5_177 rfl rfl rfl (by decide +kernel) ⟨Nat.le_of_ble_eq_true rfl, Nat.le_of_ble_eq_true rfl⟩) nN_mv hN hK hP [0, 1, 2, 3, 4, 5, 6] [0, 1] rfl rfl rfl rfl rfl hl.1 rfl (Nat.le_of_ble_eq_true rfl) dX5_lines_93 ⟨Nat.le_of_ble_eq_true rfl, Nat.le_of_ble_eq_true rfl⟩ ?_
                  refine lv_if_eq (tgt := 249) hx hb dX5_lines_96 (by decide) (fun c20 => ?_) (fun c20 => ?_)
                  · obtain ⟨z21, ez21⟩ : ∃ y : Int32, y = k_ + 1 := ⟨_, rfl⟩
                    refine lv_iinc (v := z21) (lv' := [(9, .int z21), (3, .int (df + (1 : Int32))), (8, .int i), (7, .int o2), (6, .int ms2), (5, .int mo2), (4, .int me2), (0, .ref m1), (1, .int n), (2, .int wh)]) hx hb dX5_lines_249 hl (k := 0) rfl (by rw [ez21]; rfl) (by decide) rfl (fun ls hl => ?_)
                    refine lv_goto (tgt := 75) hx hb dX5_lines_252 (by decide) ?_
                    have hl9 := hl
                    subst ez21
                    exact ihB me2 mo2 ms2 o2 (k_ + 1) _ (lv_sub hl9 [0, 1, 2, 3, 4, 5, 6, 7, 8, 9] rfl) ⟨xr_us huB c17, by rw [← hLB, fX5_lines_B2_s, if_neg c17, if_pos c20]⟩
                  · refine lv_aload_n hx hb dX5_lines_99 rfl (lv_at hl 7 rfl) ?_
                    refine lv_iload hx hb dX5_lines_100 (lv_at hl 2 rfl) ?_
                    refine lv_iload hx hb dX5_lines_102 (lv_at hl 0 rfl) ?_
                    refine xr_V (q := (RX5, TX5, 14)) (ci := 9) (q0 := 0) (rest := []) (As := [.int i, .int k_]) ⟨hx, hb, hml, hown, hts⟩ (ct5_both l D m1 m2 m3 m4 m5 m6 m7 kI kJ xs ys held la lb lc (0 : Int32) pm rm on cl un ze lm i k_ (xr_in huA c5 (o_nl olm c2)) (xr_in huB c17 (o_nl olm c2))) (cwV 2 hts gl_X5_171 rfl rfl rfl (by decide +kernel) ⟨Nat.le_of_ble_eq_true rfl, Nat.le_of_ble_eq_true rfl⟩) nN_mv hN hK hP [0, 1, 2, 3, 4, 5, 6] [0, 1] rfl rfl rfl rfl rfl hl.1 rfl (Nat.le_of_ble_eq_true rfl) dX5_lines_104 ⟨Nat.le_of_ble_eq_true rfl, Nat.le_of_ble_eq_true rfl⟩ ?_
                    refine lv_lconst (v := 0) hx hb dX5_lines_107 (by decide) ?_
                    refine W.lcmp hx hb dX5_lines_108 ?_
                    refine lv_if_ne (tgt := 115) hx hb dX5_lines_109 (by decide) (fun c22 => ?_) (fun c22 => ?_)
                    · refine lv_iconst (v := 0) hx hb dX5_lines_115 (by decide) ?_
                      refine lv_istore (lv' := [(10, .int (0 : Int32)), (9, .int k_), (3, .int (df + (1 : Int32))), (8, .int i), (7, .int o2), (6, .int ms2), (5, .int mo2), (4, .int me2), (0, .ref m1), (1, .int n), (2, .int wh)]) hx hb dX5_lines_116 hl (by decide) rfl (fun ls hl => ?_)
                      refine lv_iconst (v := 0) hx hb dX5_lines_118 (by decide) ?_
                      refine lv_istore (lv' := [(11, .int (0 : Int32)), (10, .int (0 : Int32)), (9, .int k_), (3, .int (df + (1 : Int32))), (8, .int i), (7, .int o2), (6, .int ms2), (5, .int mo2), (4, .int me2), (0, .ref m1), (1, .int n), (2, .int wh)]) hx hb dX5_lines_119 hl (by decide) rfl (fun ls hl => ?_)
                      refine lv_iconst (v := 0) hx hb dX5_lines_121 (by decide) ?_
                      refine lv_istore (lv' := [(12, .int (0 : Int32)), (11, .int (0 : Int32)), (10, .int (0 : Int32)), (9, .int k_), (3, .int (df + (1 : Int32))), (8, .int i), (7, .int o2), (6, .int ms2), (5, .int mo2), (4, .int me2), (0, .ref m1), (1, .int n), (2, .int wh)]) hx hb dX5_lines_122 hl (by decide) rfl (fun ls hl => ?_)
                      refine xr_l3 (P := fun ls => W p l e _ s m _ below meth c _ _ _ _ _ (F0 m 124 ls [])) (nL := 14) (fun (fi : Int32) (thr : Int32) (j : Int32) => [(12, .int j), (11, .int thr), (10, .int fi), (9, .int k_), (3, .int (df + (1 : Int32))), (8, .int i), (7, .int o2), (6, .int ms2), (5, .int mo2), (4, .int me2), (0, .ref m1), (1, .int n), (2, .int wh)]) (fun kC (fi : Int32) (thr : Int32) (j : Int32) => xr_u n j kC ∧ fX5_lines_C la lb lc lm n wh df me mo ms_ o_ i me2 mo2 ms2 o2 k_ (fun fi thr j => if fi = (0 : Int32) then (if thr ≤ ms2 then (fX5_lines_B2 la lb lc lm n wh df me mo ms_ o_ i (fun me2 mo2 ms2 o2 k_ => fX5_lines_A la lb lc lm n wh kA (df + (1 : Int32)) me2 mo2 ms2 o2 (i + 1)) kB (me2 + 1) (mo2 + (thr - (1 : Int32))) ms2 (o2 + thr) (k_ + 1)) else (fX5_lines_B2 la lb lc lm n wh df me mo ms_ o_ i (fun me2 mo2 ms2 o2 k_ => fX5_lines_A la lb lc lm n wh kA (df + (1 : Int32)) me2 mo2 ms2 o2 (i + 1)) kB (me2 + 1) (mo2 + (thr - (1 : Int32))) thr (o2 + thr) (k_ + 1))) else (fX5_lines_B2 la lb lc lm n wh df me mo ms_ o_ i (fun me2 mo2 ms2 o2 k_ => fX5_lines_A la lb lc lm n wh kA (df + (1 : Int32)) me2 mo2 ms2 o2 (i + 1)) kB me2 mo2 ms2 o2 (k_ + 1))) kC fi thr j = fX5_lines la lb lc lm n wh) (fun _ _ _ h => xr_u0 h.1) ?_ (n.toInt.toNat + 1) (0 : Int32) (0 : Int32) (0 : Int32) ls hl ⟨(xr_ub n), (by rw [← hLB, fX5_lines_B2_s, if_neg c17, if_neg c20, if_neg c22])⟩
                      clear hl
                      intro kC fi thr j ls hl hI ihC
                      obtain ⟨huC, hLC⟩ := hI
                      refine lv_iload hx hb dX5_lines_124 (lv_at hl 0 rfl) ?_
                      refine lv_iload_n hx hb dX5_lines_126 rfl (lv_at hl 11 rfl) ?_
                      refine lv_icmp_ge (tgt := 209) hx hb dX5_lines_127 (by decide) (fun c23 => ?_) (fun c23 => ?_)
                      · refine lv_iload hx hb dX5_lines_209 (lv_at hl 2 rfl) ?_
                        refine lv_if_ne (tgt := 249) hx hb dX5_lines_211 (by decide) (fun c24 => ?_) (fun c24 => ?_)
                        · obtain ⟨z25, ez25⟩ : ∃ y : Int32, y = k_ + 1 := ⟨_, rfl⟩
                          refine lv_iinc (v := z25) (lv' := [(9, .int z25), (12, .int j), (11, .int thr), (10, .int fi), (3, .int (df + (1 : Int32))), (8, .int i), (7, .int o2), (6, .int ms2), (5, .int mo2), (4, .int me2), (0, .ref m1), (1, .int n), (2, .int wh)]) hx hb dX5_lines_249 hl (k := 3) rfl (by rw [ez25]; rfl) (by decide) rfl (fun ls hl => ?_)
                          refine lv_goto (tgt := 75) hx hb dX5_lines_252 (by decide) ?_
                          have hl9 := hl
                          subst ez25
                          exact ihB me2 mo2 ms2 o2 (k_ + 1) _ (lv_sub hl9 [0, 4, 5, 6, 7, 8, 9, 10, 11, 12] rfl) ⟨xr_us huB c17, by rw [← hLC, fX5_lines_C_s, if_pos c23, if_neg c24]⟩
                        · obtain ⟨z26, ez26⟩ : ∃ y : Int32, y = me2 + 1 := ⟨_, rfl⟩
                          refine lv_iinc (v := z26) (lv' := [(4, .int z26), (12, .int j), (11, .int thr), (10, .int fi), (9, .int k_), (3, .int (df + (1 : Int32))), (8, .int i), (7, .int o2), (6, .int ms2), (5, .int mo2), (0, .ref m1), (1, .int n), (2, .int wh)]) hx hb dX5_lines_214 hl (k := 9) rfl (by rw [ez26]; rfl) (by decide) rfl (fun ls hl => ?_)
                          refine lv_iload hx hb dX5_lines_217 (lv_at hl 9 rfl) ?_
                          refine lv_iload hx hb dX5_lines_219 (lv_at hl 2 rfl) ?_
                          refine lv_iconst (v := 1) hx hb dX5_lines_221 (by decide) ?_
                          refine lv_isub hx hb dX5_lines_222 ?_
                          refine lv_iadd hx hb dX5_lines_223 ?_
                          refine lv_topi (fun z27 ez27 => ?_)
                          refine lv_istore (lv' := [(5, .int z27), (4, .int z26), (12, .int j), (11, .int thr), (10, .int fi), (9, .int k_), (3, .int (df + (1 : Int32))), (8, .int i), (7, .int o2), (6, .int ms2), (0, .ref m1), (1, .int n), (2, .int wh)]) hx hb dX5_lines_224 hl (by decide) rfl (fun ls hl => ?_)
                          refine lv_iload hx hb dX5_lines_226 (lv_at hl 8 rfl) ?_
                          refine lv_iload hx hb dX5_lines_228 (lv_at hl 3 rfl) ?_
                          refine lv_iadd hx hb dX5_lines_230 ?_
                          refine lv_istore (lv' := [(7, .int (o2 + thr)), (5, .int z27), (4, .int z26), (12, .int j), (11, .int thr), (10, .int fi), (9, .int k_), (3, .int (df + (1 : Int32))), (8, .int i), (6, .int ms2), (0, .ref m1), (1, .int n), (2, .int wh)]) hx hb dX5_lines_231 hl (by decide) rfl (fun ls hl => ?_)
                          refine lv_iload hx hb dX5_lines_233 (lv_at hl 4 rfl) ?_
                          refine lv_iload hx hb dX5_lines_235 (lv_at hl 9 rfl) ?_
                          refine lv_icmp_le (tgt := 245) hx hb dX5_lines_237 (by decide) (fun c28 => ?_) (fun c28 => ?_)
                          · refine lv_iload hx hb dX5_lines_245 (lv_at hl 9 rfl) ?_
                            refine lv_istore (lv' := [(6, .int ms2), (7, .int (o2 + thr)), (5, .int z27), (4, .int z26), (12, .int j), (11, .int thr), (10, .int fi), (9, .int k_), (3, .int (df + (1 : Int32))), (8, .int i), (0, .ref m1), (1, .int n), (2, .int wh)]) hx hb dX5_lines_247 hl (by decide) rfl (fun ls hl => ?_)
                            obtain ⟨z29, ez29⟩ : ∃ y : Int32, y = k_ + 1 := ⟨_, rfl⟩
                            refine lv_iinc (v := z29) (lv' := [(9, .int z29), (6, .int ms2), (7, .int (o2 + thr)), (5, .int z27), (4, .int z26), (12, .int j), (11, .int thr), (10, .int fi), (3, .int (df + (1 : Int32))), (8, .int i), (0, .ref m1), (1, .int n), (2, .int wh)]) hx hb dX5_lines_249 hl (k := 7) rfl (by rw [ez29]; rfl) (by decide) rfl (fun ls hl => ?_)
                            refine lv_goto (tgt := 75) hx hb dX5_lines_252 (by decide) ?_
                            have hl9 := hl
                            subst ez29
                            subst ez27
                            subst ez26
                            exact ihB (me2 + 1) (mo2 + (thr - (1 : Int32))) ms2 (o2 + thr) (k_ + 1) _ (lv_sub hl9 [0, 8, 9, 2, 1, 3, 4, 10, 11, 12] rfl) ⟨xr_us huB c17, by rw [← hLC, fX5_lines_C_s, if_pos c23, if_pos c24, if_pos c28]⟩
                          · refine lv_iload hx hb dX5_lines_240 (lv_at hl 4 rfl) ?_
                            refine lv_goto (tgt := 247) hx hb dX5_lines_242 (by decide) ?_
                            refine lv_istore (lv' := [(6, .int thr), (7, .int (o2 + thr)), (5, .int z27), (4, .int z26), (12, .int j), (11, .int thr), (10, .int fi), (9, .int k_), (3, .int (df + (1 : Int32))), (8, .int i), (0, .ref m1), (1, .int n), (2, .int wh)]) hx hb dX5_lines_247 hl (by decide) rfl (fun ls hl => ?_)
                            obtain ⟨z30, ez30⟩ : ∃ y : Int32, y = k_ + 1 := ⟨_, rfl⟩
                            refine lv_iinc (v := z30) (lv' := [(9, .int z30), (6, .int thr), (7, .int (o2 + thr)), (5, .int z27), (4, .int z26), (12, .int j), (11, .int thr), (10, .int fi), (3, .int (df + (1 : Int32))), (8, .int i), (0, .ref m1), (1, .int n), (2, .int wh)]) hx hb dX5_lines_249 hl (k := 7) rfl (by rw [ez30]; rfl) (by decide) rfl (fun ls hl => ?_)
                            refine lv_goto (tgt := 75) hx hb dX5_lines_252 (by decide) ?_
                            have hl9 := hl
                            subst ez30
                            subst ez27
                            subst ez26
                            exact ihB (me2 + 1) (mo2 + (thr - (1 : Int32))) thr (o2 + thr) (k_ + 1) _ (lv_sub hl9 [0, 8, 9, 2, 1, 3, 4, 10, 11, 12] rfl) ⟨xr_us huB c17, by rw [← hLC, fX5_lines_C_s, if_pos c23, if_pos c24, if_neg c28]⟩
                      · refine lv_aload_n hx hb dX5_lines_130 rfl (lv_at hl 10 rfl) ?_
                        refine lv_iload hx hb dX5_lines_131 (lv_at hl 0 rfl) ?_
                        refine xr_V (q := (RX5, TX5, 14)) (ci := 9) (q0 := 0) (rest := []) (As := [.int j]) ⟨hx, hb, hml, hown, hts⟩ (ct5_isNew l D m1 m2 m3 m4 m5 m6 m7 kI kJ xs ys held la lb lc (0 : Int32) pm rm on cl un ze lm j (xr_in huC c23 (o_nl olm c2))) (cwV 1 hts gl_X5_177 rfl rfl rfl (by decide +kernel) ⟨Nat.le_of_ble_eq_true rfl, Nat.le_of_ble_eq_true rfl⟩) nN_mv hN hK hP [0, 1, 2, 3, 4, 5, 6] [0, 1] rfl rfl rfl rfl rfl hl.1 rfl (Nat.le_of_ble_eq_true rfl) dX5_lines_133 ⟨Nat.le_of_ble_eq_true rfl, Nat.le_of_ble_eq_true rfl⟩ ?_
                        refine lv_if_eq (tgt := 156) hx hb dX5_lines_136 (by decide) (fun c31 => ?_) (fun c31 => ?_)
                        · refine lv_iconst (v := 0) hx hb dX5_lines_156 (by decide) ?_
                          refine lv_istore (lv' := [(13, .int (0 : Int32)), (12, .int j), (11, .int thr), (10, .int fi), (9, .int k_), (3, .int (df + (1 : Int32))), (8, .int i), (7, .int o2), (6, .int ms2), (5, .int mo2), (4, .int me2), (0, .ref m1), (1, .int n), (2, .int wh)]) hx hb dX5_lines_157 hl (by decide) rfl (fun ls hl => ?_)
                          refine lv_iload hx hb dX5_lines_159 (lv_at hl 3 rfl) ?_
                          refine lv_iload hx hb dX5_lines_161 (lv_at hl 0 rfl) ?_
                          refine lv_if_eq (tgt := 184) hx hb dX5_lines_163 (by decide) (fun c32 => ?_) (fun c32 => ?_)
                          · refine lv_iconst (v := 0) hx hb dX5_lines_184 (by decide) ?_
                            refine lv_iadd hx hb dX5_lines_185 ?_
                            refine lv_istore (lv' := [(10, .int (fi + (0 : Int32))), (13, .int (0 : Int32)), (12, .int j), (11, .int thr), (9, .int k_), (3, .int (df + (1 : Int32))), (8, .int i), (7, .int o2), (6, .int ms2), (5, .int mo2), (4, .int me2), (0, .ref m1), (1, .int n), (2, .int wh)]) hx hb dX5_lines_186 hl (by decide) rfl (fun ls hl => ?_)
                            refine lv_iload hx hb dX5_lines_188 (lv_at hl 3 rfl) ?_
                            refine lv_iload hx hb dX5_lines_190 (lv_at hl 1 rfl) ?_
                            refine lv_if_eq (tgt := 199) hx hb dX5_lines_192 (by decide) (fun c33 => ?_) (fun c33 => ?_)
                            · refine lv_iconst (v := 0) hx hb dX5_lines_199 (by decide) ?_
                              refine lv_iadd hx hb dX5_lines_200 ?_
                              refine lv_istore (lv' := [(11, .int (thr + (0 : Int32))), (10, .int (fi + (0 : Int32))), (13, .int (0 : Int32)), (12, .int j), (9, .int k_), (3, .int (df + (1 : Int32))), (8, .int i), (7, .int o2), (6, .int ms2), (5, .int mo2), (4, .int me2), (0, .ref m1), (1, .int n), (2, .int wh)]) hx hb dX5_lines_201 hl (by decide) rfl (fun ls hl => ?_)
                              obtain ⟨z34, ez34⟩ : ∃ y : Int32, y = j + 1 := ⟨_, rfl⟩
                              refine lv_iinc (v := z34) (lv' := [(12, .int z34), (11, .int (thr + (0 : Int32))), (10, .int (fi + (0 : Int32))), (13, .int (0 : Int32)), (9, .int k_), (3, .int (df + (1 : Int32))), (8, .int i), (7, .int o2), (6, .int ms2), (5, .int mo2), (4, .int me2), (0, .ref m1), (1, .int n), (2, .int wh)]) hx hb dX5_lines_203 hl (k := 3) rfl (by rw [ez34]; rfl) (by decide) rfl (fun ls hl => ?_)
                              refine lv_goto (tgt := 124) hx hb dX5_lines_206 (by decide) ?_
                              have hl9 := hl
                              subst ez34
                              exact ihC (fi + (0 : Int32)) (thr + (0 : Int32)) (j + 1) _ (lv_sub hl9 [0, 1, 2, 4, 5, 6, 7, 8, 9, 10, 11, 12, 13] rfl) ⟨xr_us huC c23, by rw [← hLC, fX5_lines_C_s, if_neg c23, if_pos c31]⟩
                            · exact absurd (by decide) c33
                          · exact absurd (by decide) c32
                        · refine lv_aload_n hx hb dX5_lines_139 rfl (lv_at hl 10 rfl) ?_
                          refine lv_iload hx hb dX5_lines_140 (lv_at hl 5 rfl) ?_
                          refine lv_iload hx hb dX5_lines_142 (lv_at hl 3 rfl) ?_
                          refine lv_iload hx hb dX5_lines_144 (lv_at hl 0 rfl) ?_
                          refine xr_V (q := (RX5, TX5, 14)) (ci := 9) (q0 := 0) (rest := []) (As := [.int i, .int k_, .int j]) ⟨hx, hb, hml, hown, hts⟩ (ct5_isThrough l D m1 m2 m3 m4 m5 m6 m7 kI kJ xs ys held la lb lc (0 : Int32) pm rm on cl un ze lm i k_ j (xr_in huA c5 (o_nl olm c2)) (xr_in huB c17 (o_nl olm c2)) (xr_in huC c23 (o_nl olm c2))) (cwV 3 hts gl_X5_180 rfl rfl rfl (by decide +kernel) ⟨Nat.le_of_ble_eq_true rfl, Nat.le_of_ble_eq_true rfl⟩) nN_mv hN hK hP [0, 1, 2, 3, 4, 5, 6] [0, 1] rfl rfl rfl rfl rfl hl.1 rfl (Nat.le_of_ble_eq_true rfl) dX5_lines_146 ⟨Nat.le_of_ble_eq_true rfl, Nat.le_of_ble_eq_true rfl⟩ ?_
                          refine lv_if_eq (tgt := 156) hx hb dX5_lines_149 (by decide) (fun c35 => ?_) (fun c35 => ?_)
                          · refine lv_iconst (v := 0) hx hb dX5_lines_156 (by decide) ?_
                            refine lv_istore (lv' := [(13, .int (0 : Int32)), (12, .int j), (11, .int thr), (10, .int fi), (9, .int k_), (3, .int (df + (1 : Int32))), (8, .int i), (7, .int o2), (6, .int ms2), (5, .int mo2), (4, .int me2), (0, .ref m1), (1, .int n), (2, .int wh)]) hx hb dX5_lines_157 hl (by decide) rfl (fun ls hl => ?_)
                            refine lv_iload hx hb dX5_lines_159 (lv_at hl 3 rfl) ?_
                            refine lv_iload hx hb dX5_lines_161 (lv_at hl 0 rfl) ?_
                            refine lv_if_eq (tgt := 184) hx hb dX5_lines_163 (by decide) (fun c36 => ?_) (fun c36 => ?_)
                            · refine lv_iconst (v := 0) hx hb dX5_lines_184 (by decide) ?_
                              refine lv_iadd hx hb dX5_lines_185 ?_
                              refine lv_istore (lv' := [(10, .int (fi + (0 : Int32))), (13, .int (0 : Int32)), (12, .int j), (11, .int thr), (9, .int k_), (3, .int (df + (1 : Int32))), (8, .int i), (7, .int o2), (6, .int ms2), (5, .int mo2), (4, .int me2), (0, .ref m1), (1, .int n), (2, .int wh)]) hx hb dX5_lines_186 hl (by decide) rfl (fun ls hl => ?_)
                              refine lv_iload hx hb dX5_lines_188 (lv_at hl 3 rfl) ?_
                              refine lv_iload hx hb dX5_lines_190 (lv_at hl 1 rfl) ?_
                              refine lv_if_eq (tgt := 199) hx hb dX5_lines_192 (by decide) (fun c37 => ?_) (fun c37 => ?_)
                              · refine lv_iconst (v := 0) hx hb dX5_lines_199 (by decide) ?_
                                refine lv_iadd hx hb dX5_lines_200 ?_
                                refine lv_istore (lv' := [(11, .int (thr + (0 : Int32))), (10, .int (fi + (0 : Int32))), (13, .int (0 : Int32)), (12, .int j), (9, .int k_), (3, .int (df + (1 : Int32))), (8, .int i), (7, .int o2), (6, .int ms2), (5, .int mo2), (4, .int me2), (0, .ref m1), (1, .int n), (2, .int wh)]) hx hb dX5_lines_201 hl (by decide) rfl (fun ls hl => ?_)
                                obtain ⟨z38, ez38⟩ : ∃ y : Int32, y = j + 1 := ⟨_, rfl⟩
                                refine lv_iinc (v := z38) (lv' := [(12, .int z38), (11, .int (thr + (0 : Int32))), (10, .int (fi + (0 : Int32))), (13, .int (0 : Int32)), (9, .int k_), (3, .int (df + (1 : Int32))), (8, .int i), (7, .int o2), (6, .int ms2), (5, .int mo2), (4, .int me2), (0, .ref m1), (1, .int n), (2, .int wh)]) hx hb dX5_lines_203 hl (k := 3) rfl (by rw [ez38]; rfl) (by decide) rfl (fun ls hl => ?_)
                                refine lv_goto (tgt := 124) hx hb dX5_lines_206 (by decide) ?_
                                have hl9 := hl
                                subst ez38
                                exact ihC (fi + (0 : Int32)) (thr + (0 : Int32)) (j + 1) _ (lv_sub hl9 [0, 1, 2, 4, 5, 6, 7, 8, 9, 10, 11, 12, 13] rfl) ⟨xr_us huC c23, by rw [← hLC, fX5_lines_C_s, if_neg c23, if_neg c31, if_pos c35]⟩
                              · exact absurd (by decide) c37
                            · exact absurd (by decide) c36
                          · refine lv_iconst (v := 1) hx hb dX5_lines_152 (by decide) ?_
                            refine lv_goto (tgt := 157) hx hb dX5_lines_153 (by decide) ?_
                            refine lv_istore (lv' := [(13, .int (1 : Int32)), (12, .int j), (11, .int thr), (10, .int fi), (9, .int k_), (3, .int (df + (1 : Int32))), (8, .int i), (7, .int o2), (6, .int ms2), (5, .int mo2), (4, .int me2), (0, .ref m1), (1, .int n), (2, .int wh)]) hx hb dX5_lines_157 hl (by decide) rfl (fun ls hl => ?_)
                            refine lv_iload hx hb dX5_lines_159 (lv_at hl 3 rfl) ?_
                            refine lv_iload hx hb dX5_lines_161 (lv_at hl 0 rfl) ?_
                            refine lv_if_eq (tgt := 184) hx hb dX5_lines_163 (by decide) (fun c39 => ?_) (fun c39 => ?_)
                            · exact absurd c39 (by decide)
                            · refine lv_iload hx hb dX5_lines_166 (lv_at hl 1 rfl) ?_
                              refine lv_iload hx hb dX5_lines_168 (lv_at hl 4 rfl) ?_
                              refine lv_icmp_ge (tgt := 184) hx hb dX5_lines_170 (by decide) (fun c40 => ?_) (fun c40 => ?_)
                              · refine lv_iconst (v := 0) hx hb dX5_lines_184 (by decide) ?_
                                refine lv_iadd hx hb dX5_lines_185 ?_
                                refine lv_istore (lv' := [(10, .int (fi + (0 : Int32))), (13, .int (1 : Int32)), (12, .int j), (11, .int thr), (9, .int k_), (3, .int (df + (1 : Int32))), (8, .int i), (7, .int o2), (6, .int ms2), (5, .int mo2), (4, .int me2), (0, .ref m1), (1, .int n), (2, .int wh)]) hx hb dX5_lines_186 hl (by decide) rfl (fun ls hl => ?_)
                                refine lv_iload hx hb dX5_lines_188 (lv_at hl 3 rfl) ?_
                                refine lv_iload hx hb dX5_lines_190 (lv_at hl 1 rfl) ?_
                                refine lv_if_eq (tgt := 199) hx hb dX5_lines_192 (by decide) (fun c41 => ?_) (fun c41 => ?_)
                                · exact absurd c41 (by decide)
                                · refine lv_iconst (v := 1) hx hb dX5_lines_195 (by decide) ?_
                                  refine lv_goto (tgt := 200) hx hb dX5_lines_196 (by decide) ?_
                                  refine lv_iadd hx hb dX5_lines_200 ?_
                                  refine lv_istore (lv' := [(11, .int (thr + (1 : Int32))), (10, .int (fi + (0 : Int32))), (13, .int (1 : Int32)), (12, .int j), (9, .int k_), (3, .int (df + (1 : Int32))), (8, .int i), (7, .int o2), (6, .int ms2), (5, .int mo2), (4, .int me2), (0, .ref m1), (1, .int n), (2, .int wh)]) hx hb dX5_lines_201 hl (by decide) rfl (fun ls hl => ?_)
                                  obtain ⟨z42, ez42⟩ : ∃ y : Int32, y = j + 1 := ⟨_, rfl⟩
                                  refine lv_iinc (v := z42) (lv' := [(12, .int z42), (11, .int (thr + (1 : Int32))), (10, .int (fi + (0 : Int32))), (13, .int (1 : Int32)), (9, .int k_), (3, .int (df + (1 : Int32))), (8, .int i), (7, .int o2), (6, .int ms2), (5, .int mo2), (4, .int me2), (0, .ref m1), (1, .int n), (2, .int wh)]) hx hb dX5_lines_203 hl (k := 3) rfl (by rw [ez42]; rfl) (by decide) rfl (fun ls hl => ?_)
                                  refine lv_goto (tgt := 124) hx hb dX5_lines_206 (by decide) ?_
                                  have hl9 := hl
                                  subst ez42
                                  exact ihC (fi + (0 : Int32)) (thr + (1 : Int32)) (j + 1) _ (lv_sub hl9 [0, 1, 2, 4, 5, 6, 7, 8, 9, 10, 11, 12, 13] rfl) ⟨xr_us huC c23, by rw [← hLC, fX5_lines_C_s, if_neg c23, if_neg c31, if_neg c35, if_pos c40]⟩
                              · refine lv_iload hx hb dX5_lines_173 (lv_at hl 1 rfl) ?_
                                refine lv_iload hx hb dX5_lines_175 (lv_at hl 6 rfl) ?_
                                refine lv_icmp_eq (tgt := 184) hx hb dX5_lines_177 (by decide) (fun c43 => ?_) (fun c43 => ?_)
                                · refine lv_iconst (v := 0) hx hb dX5_lines_184 (by decide) ?_
                                  refine lv_iadd hx hb dX5_lines_185 ?_
                                  refine lv_istore (lv' := [(10, .int (fi + (0 : Int32))), (13, .int (1 : Int32)), (12, .int j), (11, .int thr), (9, .int k_), (3, .int (df + (1 : Int32))), (8, .int i), (7, .int o2), (6, .int ms2), (5, .int mo2), (4, .int me2), (0, .ref m1), (1, .int n), (2, .int wh)]) hx hb dX5_lines_186 hl (by decide) rfl (fun ls hl => ?_)
                                  refine lv_iload hx hb dX5_lines_188 (lv_at hl 3 rfl) ?_
                                  refine lv_iload hx hb dX5_lines_190 (lv_at hl 1 rfl) ?_
                                  refine lv_if_eq (tgt := 199) hx hb dX5_lines_192 (by decide) (fun c44 => ?_) (fun c44 => ?_)
                                  · exact absurd c44 (by decide)
                                  · refine lv_iconst (v := 1) hx hb dX5_lines_195 (by decide) ?_
                                    refine lv_goto (tgt := 200) hx hb dX5_lines_196 (by decide) ?_
                                    refine lv_iadd hx hb dX5_lines_200 ?_
                                    refine lv_istore (lv' := [(11, .int (thr + (1 : Int32))), (10, .int (fi + (0 : Int32))), (13, .int (1 : Int32)), (12, .int j), (9, .int k_), (3, .int (df + (1 : Int32))), (8, .int i), (7, .int o2), (6, .int ms2), (5, .int mo2), (4, .int me2), (0, .ref m1), (1, .int n), (2, .int wh)]) hx hb dX5_lines_201 hl (by decide) rfl (fun ls hl => ?_)
                                    obtain ⟨z45, ez45⟩ : ∃ y : Int32, y = j + 1 := ⟨_, rfl⟩
                                    refine lv_iinc (v := z45) (lv' := [(12, .int z45), (11, .int (thr + (1 : Int32))), (10, .int (fi + (0 : Int32))), (13, .int (1 : Int32)), (9, .int k_), (3, .int (df + (1 : Int32))), (8, .int i), (7, .int o2), (6, .int ms2), (5, .int mo2), (4, .int me2), (0, .ref m1), (1, .int n), (2, .int wh)]) hx hb dX5_lines_203 hl (k := 3) rfl (by rw [ez45]; rfl) (by decide) rfl (fun ls hl => ?_)
                                    refine lv_goto (tgt := 124) hx hb dX5_lines_206 (by decide) ?_
                                    have hl9 := hl
                                    subst ez45
                                    exact ihC (fi + (0 : Int32)) (thr + (1 : Int32)) (j + 1) _ (lv_sub hl9 [0, 1, 2, 4, 5, 6, 7, 8, 9, 10, 11, 12, 13] rfl) ⟨xr_us huC c23, by rw [← hLC, fX5_lines_C_s, if_neg c23, if_neg c31, if_neg c35, if_neg c40, if_pos c43]⟩
                                · refine lv_iconst (v := 1) hx hb dX5_lines_180 (by decide) ?_
                                  refine lv_goto (tgt := 185) hx hb dX5_lines_181 (by decide) ?_
                                  refine lv_iadd hx hb dX5_lines_185 ?_
                                  refine lv_istore (lv' := [(10, .int (fi + (1 : Int32))), (13, .int (1 : Int32)), (12, .int j), (11, .int thr), (9, .int k_), (3, .int (df + (1 : Int32))), (8, .int i), (7, .int o2), (6, .int ms2), (5, .int mo2), (4, .int me2), (0, .ref m1), (1, .int n), (2, .int wh)]) hx hb dX5_lines_186 hl (by decide) rfl (fun ls hl => ?_)
                                  refine lv_iload hx hb dX5_lines_188 (lv_at hl 3 rfl) ?_
                                  refine lv_iload hx hb dX5_lines_190 (lv_at hl 1 rfl) ?_
                                  refine lv_if_eq (tgt := 199) hx hb dX5_lines_192 (by decide) (fun c46 => ?_) (fun c46 => ?_)
                                  · exact absurd c46 (by decide)
                                  · refine lv_iconst (v := 1) hx hb dX5_lines_195 (by decide) ?_
                                    refine lv_goto (tgt := 200) hx hb dX5_lines_196 (by decide) ?_
                                    refine lv_iadd hx hb dX5_lines_200 ?_
                                    refine lv_istore (lv' := [(11, .int (thr + (1 : Int32))), (10, .int (fi + (1 : Int32))), (13, .int (1 : Int32)), (12, .int j), (9, .int k_), (3, .int (df + (1 : Int32))), (8, .int i), (7, .int o2), (6, .int ms2), (5, .int mo2), (4, .int me2), (0, .ref m1), (1, .int n), (2, .int wh)]) hx hb dX5_lines_201 hl (by decide) rfl (fun ls hl => ?_)
                                    obtain ⟨z47, ez47⟩ : ∃ y : Int32, y = j + 1 := ⟨_, rfl⟩
                                    refine lv_iinc (v := z47) (lv' := [(12, .int z47), (11, .int (thr + (1 : Int32))), (10, .int (fi + (1 : Int32))), (13, .int (1 : Int32)), (9, .int k_), (3, .int (df + (1 : Int32))), (8, .int i), (7, .int o2), (6, .int ms2), (5, .int mo2), (4, .int me2), (0, .ref m1), (1, .int n), (2, .int wh)]) hx hb dX5_lines_203 hl (k := 3) rfl (by rw [ez47]; rfl) (by decide) rfl (fun ls hl => ?_)
                                    refine lv_goto (tgt := 124) hx hb dX5_lines_206 (by decide) ?_
                                    have hl9 := hl
                                    subst ez47
                                    exact ihC (fi + (1 : Int32)) (thr + (1 : Int32)) (j + 1) _ (lv_sub hl9 [0, 1, 2, 4, 5, 6, 7, 8, 9, 10, 11, 12, 13] rfl) ⟨xr_us huC c23, by rw [← hLC, fX5_lines_C_s, if_neg c23, if_neg c31, if_neg c35, if_neg c40, if_neg c43]⟩
                    · refine lv_goto (tgt := 249) hx hb dX5_lines_112 (by decide) ?_
                      obtain ⟨z48, ez48⟩ : ∃ y : Int32, y = k_ + 1 := ⟨_, rfl⟩
                      refine lv_iinc (v := z48) (lv' := [(9, .int z48), (3, .int (df + (1 : Int32))), (8, .int i), (7, .int o2), (6, .int ms2), (5, .int mo2), (4, .int me2), (0, .ref m1), (1, .int n), (2, .int wh)]) hx hb dX5_lines_249 hl (k := 0) rfl (by rw [ez48]; rfl) (by decide) rfl (fun ls hl => ?_)
                      refine lv_goto (tgt := 75) hx hb dX5_lines_252 (by decide) ?_
                      have hl9 := hl
                      subst ez48
                      exact ihB me2 mo2 ms2 o2 (k_ + 1) _ (lv_sub hl9 [0, 1, 2, 3, 4, 5, 6, 7, 8, 9] rfl) ⟨xr_us huB c17, by rw [← hLB, fX5_lines_B2_s, if_neg c17, if_neg c20, if_pos c22]⟩
        · refine lv_bipush (v := (-2)) hx hb dX5_lines_26 (by decide) ?_
          have hP9 := hP
          have hD9 := hD
          have hS9 := hS
          have qv : fX5_lines la lb lc lm n wh = (-2 : Int32) := by unfold fX5_lines; rw [if_neg c1, if_neg c2, if_neg c3, if_neg c4]
          rw [qv]
          exact W.iret (v := (-2 : Int32)) hx hb hr (fun t ht hW => ⟨⟨rfl, by rw [ht]; exact hP9, by rw [hAe]; exact hD9⟩, by rw [hAe]; exact hS9.F ht⟩) hS9.2.2 dX5_lines_28
