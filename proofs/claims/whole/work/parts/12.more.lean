theorem gB0 {c c2 : Cond} (h2 : c2 ∈ BIG) : GoodIn (c :: BIG) (c2 :: BIG) := gBIG (X := []) (fun _ h => absurd h List.not_mem_nil) h2
theorem nz01 {x : Int32} (h : x = 0 ∨ x = 1) : narrow .boolean (.int x) = .int x := by rcases h with rfl | rfl <;> rfl
theorem isReg_01 (r : Int32) : isReg r = 0 ∨ isReg r = 1 := by unfold isReg; split <;> first | exact Or.inl rfl | (split <;> first | exact Or.inl rfl | exact Or.inr rfl)
theorem isReg_nz (r : Int32) : narrow .boolean (.int (isReg r)) = .int (isReg r) := nz01 (isReg_01 r)
