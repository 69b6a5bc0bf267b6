def kx_nst : List Cond := [.methodLinkNest RX4 9 yX1_init RX4, .methodLinkNest RX1 17 yX2_init RX4, .methodLinkNest RX4 18 yX2_init RX4, .methodLinkNest RX0 17 yX2_init RX4, .methodLinkNest RX4 43 yX3_init RX4, .methodLinkNest RX1 56 yX4_hasBit RX4, .methodLinkNest RX2 50 yX4_hasBit RX4, .methodLinkNest RX3 32 yX4_hasBit RX4]
theorem kx_nst_ok : ∀ w ∈ kx_nst, ∃ (a : String) (i : Nat) (x : MethodName) (b : String), w = .methodLinkNest a i x b := by
  intro w hw
  simp only [kx_nst, List.mem_cons, List.not_mem_nil, or_false] at hw
  rcases hw with h | h | h | h | h | h | h | h <;> exact ⟨_, _, _, _, h⟩
theorem kx_nst_in : ∀ w ∈ kx_nst, w ∈ lw_tbl := by decide +kernel
