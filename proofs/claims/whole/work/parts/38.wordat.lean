theorem c_X6_wordAt {d sz : Nat} {S : zSh} {M : zMem} (hL : LY S sz) {k to : Nat} (hk : k < to) (ht : to ≤ 400) (hB : ∀ i, 0 ≤ M 31 i ∧ M 31 i ≤ 255) : zX (d + 5) 0 0 mX6_wordAt [zn 30, zi (k : Int), zi (to : Int)] sz S M (zI sz S (fun r M' => r = wlN 30 WC 0 (wsg (M 31) k (to - k)) ∧ M' = M)) := by
  sorry
