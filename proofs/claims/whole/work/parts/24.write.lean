/-! Contracts of methods that write: the world behind, what isn't theirs stays. -/
def xw_P (N : State → Prop) (D : va_G) (cl : List vw_C) (tys : List (ClassId × FieldType)) (w : va_W) (sz : Nat) (av : List Value) : Array Value → State → Prop := va_Pc av (fun U => U.heap.size = sz ∧ va_P D cl w U.heap ∧ va_K D cl tys U ∧ N U ∧ va_D (fun _ => True) w)
def xw_Q (D : va_G) (cl : List vw_C) (o : Option Value) (w w' : va_W) (sz : Nat) : Array Value → State → Outcome → State → Prop := fun _ st oc t => (oc = .returned o ∧ va_P D cl w' t.heap ∧ va_D (va_A w sz) w') ∧ va_F (va_A w sz) st t
theorem xw_blind {N : State → Prop} (hN : xr_Mv N) {D : va_G} {cl : List vw_C} {tys : List (ClassId × FieldType)} {w : va_W} {sz : Nat} {av : List Value} : FrameBlind (xw_P N D cl tys w sz av) := fun a U g mk q => ⟨q.1, q.2.1, q.2.2.1, va_K.moved (u := U) (U := U.calling g mk a) (Vm.Alike.refl U.vm) q.2.2.2.1, hN.2 U (U.calling g mk a) rfl q.2.2.2.2.1, q.2.2.2.2.2⟩
section XwCalls
variable {p : Program} {l : Launch} {e : Env} {R : Room} {s : State} {m : MethodId} {args : Array Value} {below : List Frame} {meth : Method} {c : Code} {H H0 : Heap} {locs : List Loc} {cells slots mc ms : Nat} {Q : State → Prop}
variable {pc : Nat} {ls : Array Slot} {rest st0 : List Value} {a : Array Value} {v : Value} {A0 : Nat → Prop}
variable {D : va_G} {cl : List vw_C} {ws wc wr w1 ws' : va_W}
theorem xw_call (hr : va_Run p l e R s m args below meth c H locs cells slots mc ms (F0 m pc ls st0) rest (xw_Q D cl (some v) wc w1 H.size a) (va_A wc H.size)) (hP : va_P D cl ws H) (hD : va_D A0 ws) (hS : va_S A0 H0 H locs) (hA : ∀ q, H0.size ≤ q → A0 q) (isC isR : List Nat) (hC : isC.map (fun i => ws[i]?) = wc.map some) (hR : isR.map (fun i => ws[i]?) = wr.map some) (hn : va_nd isR = true) (hdis : ∀ i ∈ isR, i ∉ isC) (is2 : List Nat) (h2 : is2.filterMap (fun i => (wr ++ w1)[i]?) = ws') (hn2 : va_nd is2 = true) (h3 : is2.map (fun i => (wr ++ w1)[i]?) = ws'.map some)
    (kk : ∀ (H1 : Heap) (locs1 : List Loc), va_P D cl ws' H1 → va_D A0 ws' → va_S A0 H0 H1 locs1 → W p l e R s m args below meth c H1 locs1 (cells + mc) (slots + ms) Q (F0 m (pc + 3) ls (v :: rest))) : W p l e R s m args below meth c H locs cells slots Q (F0 m pc ls st0) := by
  intro T hT X
  have hF := va_free hD hS hA isC hC
  obtain ⟨v', st₀, t, T', L, h0, X', hL, e1, e2, ⟨⟨hv, hP1, hD1⟩, hz, hk⟩, st⟩ := hr T hT X
  cases hv
  rw [h0] at hz hk
  obtain ⟨hPj, hDj⟩ := va_join (wr := wr) (w1 := w1) hP hD isC isR hC hR hn hdis hk hF hP1 hD1
  obtain ⟨t2, a1, b1⟩ := kk T'.heap (locs ++ L) (by rw [e1]; exact hPj.sub is2 h2) (hDj.sub is2 hn2 h3)
    ⟨Nat.le_trans hS.1 (by rw [e1]; exact hz), fun q h1 h2 => by rw [e1, hk q (Nat.lt_of_lt_of_le h1 hS.1) (fun z => h2 (hF q z))]; exact hS.2.1 q h1 h2, fun q hq => by
      rcases List.mem_append.mp hq with h | h
      · exact hS.2.2 q h
      · exact hF _ (hL q h)⟩ T' rfl X'
  exact ⟨t2, st t2 a1, b1⟩
theorem xw_callv (hr : va_Run p l e R s m args below meth c H locs cells slots mc ms (F0 m pc ls st0) rest (xw_Q D cl none wc w1 H.size a) (va_A wc H.size)) (hP : va_P D cl ws H) (hD : va_D A0 ws) (hS : va_S A0 H0 H locs) (hA : ∀ q, H0.size ≤ q → A0 q) (isC isR : List Nat) (hC : isC.map (fun i => ws[i]?) = wc.map some) (hR : isR.map (fun i => ws[i]?) = wr.map some) (hn : va_nd isR = true) (hdis : ∀ i ∈ isR, i ∉ isC) (is2 : List Nat) (h2 : is2.filterMap (fun i => (wr ++ w1)[i]?) = ws') (hn2 : va_nd is2 = true) (h3 : is2.map (fun i => (wr ++ w1)[i]?) = ws'.map some)
    (kk : ∀ (H1 : Heap) (locs1 : List Loc), va_P D cl ws' H1 → va_D A0 ws' → va_S A0 H0 H1 locs1 → W p l e R s m args below meth c H1 locs1 (cells + mc) (slots + ms) Q (F0 m (pc + 3) ls rest)) : W p l e R s m args below meth c H locs cells slots Q (F0 m pc ls st0) := by
  intro T hT X
  have hF := va_free hD hS hA isC hC
  obtain ⟨v', st₀, t, T', L, h0, X', hL, e1, e2, ⟨⟨hv, hP1, hD1⟩, hz, hk⟩, st⟩ := hr T hT X
  cases hv
  rw [h0] at hz hk
  obtain ⟨hPj, hDj⟩ := va_join (wr := wr) (w1 := w1) hP hD isC isR hC hR hn hdis hk hF hP1 hD1
  obtain ⟨t2, a1, b1⟩ := kk T'.heap (locs ++ L) (by rw [e1]; exact hPj.sub is2 h2) (hDj.sub is2 hn2 h3)
    ⟨Nat.le_trans hS.1 (by rw [e1]; exact hz), fun q h1 h2 => by rw [e1, hk q (Nat.lt_of_lt_of_le h1 hS.1) (fun z => h2 (hF q z))]; exact hS.2.1 q h1 h2, fun q hq => by
      rcases List.mem_append.mp hq with h | h
      · exact hS.2.2 q h
      · exact hF _ (hL q h)⟩ T' rfl X'
  exact ⟨t2, st t2 a1, b1⟩
variable {Ts wds : List Cond} {cc bytes : ByteArray} {nL maxL index n : Nat} {own C host : String} {y : MethodName} {ret : Option FieldType} {rm : Room} {b : Nat} {As : List Value}
variable {N : State → Prop} {tys tc : List (ClassId × FieldType)} {ci q0 : Nat} {q : vw_C} {fs : List Value}
theorem xw_preV (hN : xr_Mv N) (hNs : N s) (hK : va_K D cl tys s) (hP : va_P D cl ws H) (hD : va_D A0 ws) (isC isK : List Nat) (eP : isC.filterMap (fun i => ws[i]?) = wc) (hnC : va_nd isC = true) (hC : isC.map (fun i => ws[i]?) = wc.map some) (eK : isK.filterMap (fun i => tys[i]?) = tc) (hc : cl[ci]? = some q) (he : ws[q0]? = some (b, .inr (ci, fs))) : PreV s H q.1 b (xw_P N D cl tc wc H.size (.ref b :: As)) As :=
  ⟨xw_blind hN, va_recv hK hP hc he, fun U hU hW => ⟨rfl, by rw [hU], by rw [hU]; exact hP.sub isC eP, va_K.moved hW.alike (hK.sub isK eK), hN.1 s U hW hNs, (hD.sub isC hnC hC).weaken (fun _ _ _ _ => trivial)⟩⟩
/-- a call of a method that writes and answers -/
theorem xw_V (S : CallFix p m c cc nL s args Ts own) (hM : Met l y wds rm (xw_P N D cl tc wc H.size (.ref b :: As)) (xw_Q D cl (some v) wc w1 H.size) mc ms (va_A wc H.size)) (cw : CallW R s args own q.1 index y bytes maxL ret wds rm mc ms n) (hN : xr_Mv N) (hNs : N s) (hK : va_K D cl tys s) (hP : va_P D cl ws H) (hD : va_D A0 ws) (hS : va_S A0 H0 H locs) (hA : ∀ q, H0.size ≤ q → A0 q) (isC isR is2 isK : List Nat) (eP : isC.filterMap (fun i => ws[i]?) = wc) (hnC : va_nd isC = true) (hC : isC.map (fun i => ws[i]?) = wc.map some) (eK : isK.filterMap (fun i => tys[i]?) = tc) (hR : isR.map (fun i => ws[i]?) = wr.map some) (hn : va_nd isR = true) (hdis : ∀ i ∈ isR, i ∉ isC) (h2 : is2.filterMap (fun i => (wr ++ w1)[i]?) = ws') (hn2 : va_nd is2 = true) (h3 : is2.map (fun i => (wr ++ w1)[i]?) = ws'.map some)
    (hc : cl[ci]? = some q) (he : ws[q0]? = some (b, .inr (ci, fs))) (hln : As.length = n) (hsize : ls.size = nL) (hst : st0 = As.reverse ++ .ref b :: rest) (hW : (rest.map fun v => v.category).sum ≤ 8) (hdg : decode cc pc = .ok (.invokevirtual index, 3)) (hf : cells + mc ≤ R.cells ∧ slots + ms ≤ R.slots)
    (kk : ∀ (H1 : Heap) (locs1 : List Loc), va_P D cl ws' H1 → va_D A0 ws' → va_S A0 H0 H1 locs1 → W p l e R s m args below meth c H1 locs1 (cells + mc) (slots + ms) Q (F0 m (pc + 3) ls (v :: rest))) : W p l e R s m args below meth c H locs cells slots Q (F0 m pc ls st0) :=
  xw_call (va_runV (rest := rest) S hM cw (xw_preV hN hNs hK hP hD isC isK eP hnC hC eK hc he) rfl hln hsize hst (lv_room hW) hdg hf) hP hD hS hA isC isR hC hR hn hdis is2 h2 hn2 h3 kk
theorem xw_Vv (S : CallFix p m c cc nL s args Ts own) (hM : Met l y wds rm (xw_P N D cl tc wc H.size (.ref b :: As)) (xw_Q D cl none wc w1 H.size) mc ms (va_A wc H.size)) (cw : CallW R s args own q.1 index y bytes maxL ret wds rm mc ms n) (hN : xr_Mv N) (hNs : N s) (hK : va_K D cl tys s) (hP : va_P D cl ws H) (hD : va_D A0 ws) (hS : va_S A0 H0 H locs) (hA : ∀ q, H0.size ≤ q → A0 q) (isC isR is2 isK : List Nat) (eP : isC.filterMap (fun i => ws[i]?) = wc) (hnC : va_nd isC = true) (hC : isC.map (fun i => ws[i]?) = wc.map some) (eK : isK.filterMap (fun i => tys[i]?) = tc) (hR : isR.map (fun i => ws[i]?) = wr.map some) (hn : va_nd isR = true) (hdis : ∀ i ∈ isR, i ∉ isC) (h2 : is2.filterMap (fun i => (wr ++ w1)[i]?) = ws') (hn2 : va_nd is2 = true) (h3 : is2.map (fun i => (wr ++ w1)[i]?) = ws'.map some)
    (hc : cl[ci]? = some q) (he : ws[q0]? = some (b, .inr (ci, fs))) (hln : As.length = n) (hsize : ls.size = nL) (hst : st0 = As.reverse ++ .ref b :: rest) (hW : (rest.map fun v => v.category).sum ≤ 8) (hdg : decode cc pc = .ok (.invokevirtual index, 3)) (hf : cells + mc ≤ R.cells ∧ slots + ms ≤ R.slots)
    (kk : ∀ (H1 : Heap) (locs1 : List Loc), va_P D cl ws' H1 → va_D A0 ws' → va_S A0 H0 H1 locs1 → W p l e R s m args below meth c H1 locs1 (cells + mc) (slots + ms) Q (F0 m (pc + 3) ls rest)) : W p l e R s m args below meth c H locs cells slots Q (F0 m pc ls st0) :=
  xw_callv (va_runV (rest := rest) S hM cw (xw_preV hN hNs hK hP hD isC isK eP hnC hC eK hc he) rfl hln hsize hst (lv_room hW) hdg hf) hP hD hS hA isC isR hC hR hn hdis is2 h2 hn2 h3 kk
end XwCalls
theorem bf {x : Int32} (h : x = 0 ∨ x = 1) : fits FieldType.boolean (Value.int x) = true := by
  rcases h with rfl | rfl <;> rfl
