/-! Constructors: what is new, and the class of its rows. -/
def nA (kI kJ : ClassId) (U : State) : Prop := U.vm.findClass ("[" ++ (newarray.typeOf .int).toString) = some kI ∧ U.vm.findClass ("[" ++ (newarray.typeOf .long).toString) = some kJ
def nB (kI kJ : ClassId) (U : State) : Prop := nN U ∧ nA kI kJ U
theorem find_mv {u U : State} {n : String} {k : ClassId} (h : u.vm.Alike U.vm) (q : u.vm.findClass n = some k) : U.vm.findClass n = some k := by
  rw [h.findClass]; exact q
theorem nB_mv {kI kJ : ClassId} : xr_Mv (nB kI kJ) := ⟨fun u U hW h => ⟨nN_mv.1 u U hW h.1, find_mv hW.alike h.2.1, find_mv hW.alike h.2.2⟩, fun u U h q => ⟨nN_mv.2 u U h q.1, by rw [← h]; exact q.2.1, by rw [← h]; exact q.2.2⟩⟩
def xc_Q (D : va_G) (cl : List vw_C) (W1 : (Nat → Nat) → va_W) (w : va_W) (sz : Nat) : Array Value → State → Outcome → State → Prop := fun _ st oc t => (oc = .returned none ∧ ∃ u : Nat → Nat, va_P D cl (W1 u) t.heap ∧ va_D (va_A w sz) (W1 u)) ∧ va_F (va_A w sz) st t
section Xc
variable {p : Program} {l : Launch} {e : Env} {R : Room} {s : State} {m : MethodId} {args : Array Value} {below : List Frame} {meth : Method} {c : Code} {H H0 : Heap} {locs : List Loc} {cells slots mc ms : Nat} {Q : State → Prop}
variable {pc : Nat} {ls : Array Slot} {rest st0 : List Value} {a : Array Value} {v : Value} {A0 : Nat → Prop}
variable {D : va_G} {cl : List vw_C} {ws wc wr : va_W} {cc : ByteArray}
theorem xn_newa (hexec : p.tables.exec = Jvm.exec) (hb : c.code = cc) {atype : ArrayType} {kA : ClassId} (harr : (Cond.arrayClass (newarray.typeOf atype)).before args s = true) (hcl : s.vm.findClass ("[" ++ (newarray.typeOf atype).toString) = some kA) (hP : va_P D cl ws H) (hD : va_D A0 ws) (hS : va_S A0 H0 H locs) (hA : ∀ q, H0.size ≤ q → A0 q)
    {n : Int32} {N' : Nat} {a0 : vp_A} (ha : ∀ cA : ClassId, vp_cell cA a0 = arrV cA N' (fun _ => defaultValue (newarray.typeOf atype))) (hn : ¬ n < 0) (hN : n.toNatClampNeg = N') (hbytes : N' * componentBytes (newarray.typeOf atype) ≤ 536870912) (hcells : cells + 1 ≤ R.cells) (hslots : slots + N' ≤ R.slots) (hdg : decode cc pc = .ok (.newarray atype, 2))
    (kk : ∀ (q : Nat) (H1 : Heap), va_P D cl (ws ++ [(q, .inl (kA, a0))]) H1 → va_D A0 (ws ++ [(q, .inl (kA, a0))]) → va_S A0 H0 H1 locs →
      W p l e R s m args below meth c H1 locs (cells + 1) (slots + N') Q (F0 m (pc + 2) ls (.ref q :: rest))) : W p l e R s m args below meth c H locs cells slots Q (F0 m pc ls (.int n :: rest)) := by
  refine va_newaK hexec hb harr rfl hdg rfl hn hN hbytes hcells hslots rfl fun H1 cA e1 z1 o1 hAr hNm => ?_
  have hk : ∀ (k : Nat) (x : Nat × va_E), ws[k]? = some x → H1[x.1]? = H[x.1]? := fun k x hx => o1 x.1 ((hP k x hx).lt)
  have ec : cA = kA := Option.some.inj (hNm.symm.trans hcl)
  subst ec
  refine kk H.size H1 ((hP.kept hk).app (fun k x hx => ?_)) (hD.push hP rfl (hA _ hS.1)) ⟨Nat.le_trans hS.1 (by omega), fun x h1 h2 => (o1 x (Nat.lt_of_lt_of_le h1 hS.1)).trans (hS.2.1 x h1 h2), hS.2.2⟩
  have hz : k < 1 := (List.getElem?_eq_some_iff.mp hx).1
  rw [show k = 0 by omega] at hx
  cases hx
  show H1[H.size]? = some (vp_cell _ _)
  rw [ha]
  exact e1
theorem xc_call {W1 ws' : (Nat → Nat) → va_W} (hr : va_Run p l e R s m args below meth c H locs cells slots mc ms (F0 m pc ls st0) rest (xc_Q D cl W1 wc H.size a) (va_A wc H.size)) (hP : va_P D cl ws H) (hD : va_D A0 ws) (hS : va_S A0 H0 H locs) (hA : ∀ q, H0.size ≤ q → A0 q) (isC isR : List Nat) (hC : isC.map (fun i => ws[i]?) = wc.map some) (hR : isR.map (fun i => ws[i]?) = wr.map some) (hn : va_nd isR = true) (hdis : ∀ i ∈ isR, i ∉ isC) (is2 : List Nat) (h2 : ∀ u, is2.filterMap (fun i => (wr ++ W1 u)[i]?) = ws' u) (hn2 : va_nd is2 = true) (h3 : ∀ u, is2.map (fun i => (wr ++ W1 u)[i]?) = (ws' u).map some)
    (kk : ∀ (u : Nat → Nat) (H1 : Heap) (locs1 : List Loc), va_P D cl (ws' u) H1 → va_D A0 (ws' u) → va_S A0 H0 H1 locs1 → W p l e R s m args below meth c H1 locs1 (cells + mc) (slots + ms) Q (F0 m (pc + 3) ls rest)) : W p l e R s m args below meth c H locs cells slots Q (F0 m pc ls st0) := by
  intro T hT X
  have hF := va_free hD hS hA isC hC
  obtain ⟨v', st₀, t, T', L, h0, X', hL, e1, e2, ⟨⟨hv, u, hP1, hD1⟩, hz, hk⟩, st⟩ := hr T hT X
  cases hv
  rw [h0] at hz hk
  obtain ⟨hPj, hDj⟩ := va_join (wr := wr) (w1 := W1 u) hP hD isC isR hC hR hn hdis hk hF hP1 hD1
  obtain ⟨t2, a1, b1⟩ := kk u T'.heap (locs ++ L) (by rw [e1]; exact hPj.sub is2 (h2 u)) (hDj.sub is2 hn2 (h3 u))
    ⟨Nat.le_trans hS.1 (by rw [e1]; exact hz), fun q h1 h2 => by rw [e1, hk q (Nat.lt_of_lt_of_le h1 hS.1) (fun z => h2 (hF q z))]; exact hS.2.1 q h1 h2, fun q hq => by
      rcases List.mem_append.mp hq with h | h
      · exact hS.2.2 q h
      · exact hF _ (hL q h)⟩ T' rfl X'
  exact ⟨t2, st t2 a1, b1⟩
variable {N : State → Prop} {tys tc : List (ClassId × FieldType)} {As : List Value}
theorem xw_preS (hN : xr_Mv N) (hNs : N s) (hK : va_K D cl tys s) (hP : va_P D cl ws H) (hD : va_D A0 ws) (isC isK : List Nat) (eP : isC.filterMap (fun i => ws[i]?) = wc) (hnC : va_nd isC = true) (hC : isC.map (fun i => ws[i]?) = wc.map some) (eK : isK.filterMap (fun i => tys[i]?) = tc) : PreS s H (xw_P N D cl tc wc H.size As) As :=
  ⟨xw_blind hN, fun U hU hW => ⟨rfl, by rw [hU], by rw [hU]; exact hP.sub isC eP, va_K.moved hW.alike (hK.sub isK eK), hN.1 s U hW hNs, (hD.sub isC hnC hC).weaken (fun _ _ _ _ => trivial)⟩⟩
end Xc
