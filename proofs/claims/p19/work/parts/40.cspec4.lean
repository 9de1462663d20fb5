/-! ===== selling and buying ===== -/
noncomputable def mtL (I : zIA) (L : zLA) (nt dy c f : Nat) (q x : Int64) : zLA := elS (noteI I nt dy c f) (exL (tdL L nt q x) c f q (payT (tdL L nt q x) nt)) nt
def mtM (I : zIA) (L : zLA) (nt dy c f : Nat) (q x mo : Int64) : Int64 := exM (noteI I nt dy c f) (tdL L nt q x) f q (payT (tdL L nt q x) nt) mo
/-- addresses stay, but for the trades' row and the new trade -/
def kpA (nt : Nat) (ad ad' : zk_K → Nat) : Prop := ∀ k, k ≠ (6, 0, 0) → k ≠ (14, nt, 0) → ad' k = ad k
def tooL (I : zIA) (L : zLA) (all : Int64) (c f : Nat) : Int64 := valueL I L c f - dueL I all c f
def tooC (I : zIA) (L : zLA) (all : Int64) (c f : Nat) : Prop := 0 < tooL I L all c f ∧ 0 < partsL I f (tooL I L all c f) ∧ 0 < amountL I f (partsL I f (tooL I L all c f))
def lacL (I : zIA) (L : zLA) (all : Int64) (c f : Nat) : Int64 := dueL I all c f - valueL I L c f
def lacA (I : zIA) (L : zLA) (all : Int64) (c f : Nat) : Int64 := if L 6 c - L 6 c / 100 < lacL I L all c f then L 6 c - L 6 c / 100 else lacL I L all c f
def lacC (I : zIA) (L : zLA) (all : Int64) (c f : Nat) : Prop := 0 < lacL I L all c f ∧ 0 < partsL I f (lacA I L all c f) ∧ 0 < lacA I L all c f
