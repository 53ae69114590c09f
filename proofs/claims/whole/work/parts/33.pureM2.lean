theorem mB_up34 {mu : kM} {j k : Nat} {v : Int32} (hB : mB mu j) : mB (kup mu 34 k v) j := by
  unfold mB; rw [kup_r (by decide), kup_r (by decide)]; exact hB
theorem mC_up34 {mu : kM} {k : Nat} {v : Int32} (hC : mC mu) : mC (kup mu 34 k v) := by
  intro c hc; rw [kup_r (by decide), kup_r (by decide)]; exact hC c hc
