/-! ===== constructors ===== -/
theorem zk_se_up2 (w : zk_W) (k : zk_K) (a b : va_E) : zk_up (zk_se w k a) k b (zk_se w k b) := ⟨rfl, rfl, if_pos rfl, fun _ h _ => (if_neg h).trans (if_neg h).symm⟩
