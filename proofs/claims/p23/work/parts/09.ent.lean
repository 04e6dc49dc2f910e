/-- what an array held at the entry, it holds -/
theorem hx_afS {tb : List hx_d} {M : hx_m} {L L1 : List Nat} {h h1 : hx_h} {q t : Nat} {f : Nat → Int32} (hs : hx_S tb M L h L1 h1) (g : hx_g L h q t) (hk : M.any (fun q => q.1 == t) = false) (e : h.2.1 q = f) : h1.2.1 q = f := (funext fun j => (hs.a g hk j).1).trans e
