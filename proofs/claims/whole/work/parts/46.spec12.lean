/-! THE CLASS, in our words -/
def gTb1 (f : gPS) (b : Int32) : gPS := gU (if f 1 0 < 20 then gU f 0 (f 1 0).toNatClampNeg b else f) 1 0 (f 1 0 + 1)
