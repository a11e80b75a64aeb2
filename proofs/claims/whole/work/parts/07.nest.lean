/-- the links to private members of a nest mate -/
def nN (U : State) : Prop := va_Nw (.methodLinkNest RX2 30 yX4_signOf RX4) U ∧ va_Nw (.methodLinkNest RX4 9 yX2_init RX4) U ∧ va_Nw (.methodLinkNest RX4 34 yX0_init RX4) U
theorem nN_mv : xr_Mv nN := ⟨fun u U hW h => ⟨va_Nw.warmM hW h.1, va_Nw.warmM hW h.2.1, va_Nw.warmM hW h.2.2⟩, fun u U h q => ⟨va_Nw.same rfl h q.1, va_Nw.same rfl h q.2.1, va_Nw.same rfl h q.2.2⟩⟩
