theorem tX12_in (v a b : Int) (hv : q_rl v) (ha : q_rl a) (hb : q_rl b) (w : q_W) : q_D mX12_in 0 [q_l v, q_l a, q_l b] w (some (q_b (a ≤ v ∧ v ≤ b))) w := by
  refine q_T.of (lv := [some (q_l v), none, some (q_l a), none, some (q_l b), none]) (by decide) rfl (Nat.le_of_ble_eq_true rfl) ?_
  refine q_lload_n dX12_in_0 rfl ?_
  refine q_lload_n dX12_in_1 rfl ?_
  refine q_lcmp_lt (tgt := 17) dX12_in_2 dX12_in_3 (by decide) hv ha (fun h2 => ?_) (fun h2 => ?_)
  · skip
    refine q_iconst dX12_in_17 ?_
    exact q_zret rfl (Or.inl rfl) dX12_in_18 (⟨congrArg some (q_b0 (by omega)), rfl⟩)
  · skip
    refine q_lload_n dX12_in_6 rfl ?_
    refine q_lload dX12_in_7 rfl ?_
    refine q_lcmp_gt (tgt := 17) dX12_in_9 dX12_in_10 (by decide) hv hb (fun h9 => ?_) (fun h9 => ?_)
    · skip
      refine q_iconst dX12_in_17 ?_
      exact q_zret rfl (Or.inl rfl) dX12_in_18 (⟨congrArg some (q_b0 (by omega)), rfl⟩)
    · skip
      refine q_iconst dX12_in_13 ?_
      refine q_goto (tgt := 18) dX12_in_14 (by decide) ?_
      exact q_zret rfl (Or.inr rfl) dX12_in_18 (⟨congrArg some (q_b1 (by omega)), rfl⟩)
