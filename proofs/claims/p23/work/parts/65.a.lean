/-- a fact that omega is not to see -/
def hq_P (p : Prop) : Prop := p
theorem hq_i {p : Prop} (h : p) : hq_P p := h
theorem hq_o {p : Prop} (h : hq_P p) : p := h

