set_option maxRecDepth 100000 in
set_option maxHeartbeats 4000000 in
theorem k_X5_isUnder (l : Launch) (D : va_G) (q : Nat → ClassId) (tt : Nat → Nat) (x : Int32) (y : Int32)  : MI l D q tt yX5_isUnder wsX5_isUnder ({ frames := 0, cells := 0, slots := 0, locals := 0 } : Room) [.int x, .int y] [] (fun (r : Int32) (u : Unit) => r = (bI (unS x y))) (fun (_ : Unit) => []) 0 0 := by
  refine MI.of RX5 [(0, .int x), (1, .int y)] (by decide) rfl rfl (Nat.le_of_ble_eq_true rfl) rfl ?_
  intro p e s m args below meth c A C hr hnm
  refine g_iloadn C dX5_isUnder_0 1 rfl rfl ?_
  refine g_if_eq C 29 dX5_isUnder_1 rfl (fun c_1 => ?_) (fun c_1 => ?_)
  · refine g_iconst C 1 dX5_isUnder_29 (by decide) ?_
    refine g_goto C 34 dX5_isUnder_30 rfl ?_
    exact g_zret C () hr rfl dX5_isUnder_34 (Nat.le_of_ble_eq_true rfl) (Nat.le_of_ble_eq_true rfl) rfl (by first | (refine (bI_t ?_).symm; first | exact Or.inl c_1 | exact Or.inr (Or.inl c_6) | exact Or.inr (Or.inr (Or.inl ⟨c_11, c_16⟩)) | exact Or.inr (Or.inr (Or.inr ⟨c_21, c_26⟩))) | (refine (bI_n ?_).symm; intro h_; rcases h_ with h_ | h_ | ⟨h1_, h2_⟩ | ⟨h1_, h2_⟩ <;> first | exact c_1 h_ | exact c_6 h_ | exact c_16 h2_ | exact c_11 h1_ | exact c_21 h1_ | exact c_26 h2_))
  · refine g_iloadn C dX5_isUnder_4 0 rfl rfl ?_
    refine g_iloadn C dX5_isUnder_5 1 rfl rfl ?_
    refine g_icmp_eq C 29 dX5_isUnder_6 rfl (fun c_6 => ?_) (fun c_6 => ?_)
    · refine g_iconst C 1 dX5_isUnder_29 (by decide) ?_
      refine g_goto C 34 dX5_isUnder_30 rfl ?_
      exact g_zret C () hr rfl dX5_isUnder_34 (Nat.le_of_ble_eq_true rfl) (Nat.le_of_ble_eq_true rfl) rfl (by first | (refine (bI_t ?_).symm; first | exact Or.inl c_1 | exact Or.inr (Or.inl c_6) | exact Or.inr (Or.inr (Or.inl ⟨c_11, c_16⟩)) | exact Or.inr (Or.inr (Or.inr ⟨c_21, c_26⟩))) | (refine (bI_n ?_).symm; intro h_; rcases h_ with h_ | h_ | ⟨h1_, h2_⟩ | ⟨h1_, h2_⟩ <;> first | exact c_1 h_ | exact c_6 h_ | exact c_16 h2_ | exact c_11 h1_ | exact c_21 h1_ | exact c_26 h2_))
    · refine g_iloadn C dX5_isUnder_9 1 rfl rfl ?_
      refine g_iconst C 1 dX5_isUnder_10 (by decide) ?_
      refine g_icmp_ne C 19 dX5_isUnder_11 rfl (fun c_11 => ?_) (fun c_11 => ?_)
      · refine g_iloadn C dX5_isUnder_19 1 rfl rfl ?_
        refine g_iconst C 2 dX5_isUnder_20 (by decide) ?_
        refine g_icmp_ne C 33 dX5_isUnder_21 rfl (fun c_21 => ?_) (fun c_21 => ?_)
        · refine g_iconst C 0 dX5_isUnder_33 (by decide) ?_
          exact g_zret C () hr rfl dX5_isUnder_34 (Nat.le_of_ble_eq_true rfl) (Nat.le_of_ble_eq_true rfl) rfl (by first | (refine (bI_t ?_).symm; first | exact Or.inl c_1 | exact Or.inr (Or.inl c_6) | exact Or.inr (Or.inr (Or.inl ⟨c_11, c_16⟩)) | exact Or.inr (Or.inr (Or.inr ⟨c_21, c_26⟩))) | (refine (bI_n ?_).symm; intro h_; rcases h_ with h_ | h_ | ⟨h1_, h2_⟩ | ⟨h1_, h2_⟩ <;> first | exact c_1 h_ | exact c_6 h_ | exact c_16 h2_ | exact c_11 h1_ | exact c_21 h1_ | exact c_26 h2_))
        · refine g_iloadn C dX5_isUnder_24 0 rfl rfl ?_
          refine g_iconst C 4 dX5_isUnder_25 (by decide) ?_
          refine g_icmp_ne C 33 dX5_isUnder_26 rfl (fun c_26 => ?_) (fun c_26 => ?_)
          · refine g_iconst C 0 dX5_isUnder_33 (by decide) ?_
            exact g_zret C () hr rfl dX5_isUnder_34 (Nat.le_of_ble_eq_true rfl) (Nat.le_of_ble_eq_true rfl) rfl (by first | (refine (bI_t ?_).symm; first | exact Or.inl c_1 | exact Or.inr (Or.inl c_6) | exact Or.inr (Or.inr (Or.inl ⟨c_11, c_16⟩)) | exact Or.inr (Or.inr (Or.inr ⟨c_21, c_26⟩))) | (refine (bI_n ?_).symm; intro h_; rcases h_ with h_ | h_ | ⟨h1_, h2_⟩ | ⟨h1_, h2_⟩ <;> first | exact c_1 h_ | exact c_6 h_ | exact c_16 h2_ | exact c_11 h1_ | exact c_21 h1_ | exact c_26 h2_))
          · refine g_iconst C 1 dX5_isUnder_29 (by decide) ?_
            refine g_goto C 34 dX5_isUnder_30 rfl ?_
            exact g_zret C () hr rfl dX5_isUnder_34 (Nat.le_of_ble_eq_true rfl) (Nat.le_of_ble_eq_true rfl) rfl (by first | (refine (bI_t ?_).symm; first | exact Or.inl c_1 | exact Or.inr (Or.inl c_6) | exact Or.inr (Or.inr (Or.inl ⟨c_11, c_16⟩)) | exact Or.inr (Or.inr (Or.inr ⟨c_21, c_26⟩))) | (refine (bI_n ?_).symm; intro h_; rcases h_ with h_ | h_ | ⟨h1_, h2_⟩ | ⟨h1_, h2_⟩ <;> first | exact c_1 h_ | exact c_6 h_ | exact c_16 h2_ | exact c_11 h1_ | exact c_21 h1_ | exact c_26 h2_))
      · refine g_iloadn C dX5_isUnder_14 0 rfl rfl ?_
        refine g_iconst C 3 dX5_isUnder_15 (by decide) ?_
        refine g_icmp_eq C 29 dX5_isUnder_16 rfl (fun c_16 => ?_) (fun c_16 => ?_)
        · refine g_iconst C 1 dX5_isUnder_29 (by decide) ?_
          refine g_goto C 34 dX5_isUnder_30 rfl ?_
          exact g_zret C () hr rfl dX5_isUnder_34 (Nat.le_of_ble_eq_true rfl) (Nat.le_of_ble_eq_true rfl) rfl (by first | (refine (bI_t ?_).symm; first | exact Or.inl c_1 | exact Or.inr (Or.inl c_6) | exact Or.inr (Or.inr (Or.inl ⟨c_11, c_16⟩)) | exact Or.inr (Or.inr (Or.inr ⟨c_21, c_26⟩))) | (refine (bI_n ?_).symm; intro h_; rcases h_ with h_ | h_ | ⟨h1_, h2_⟩ | ⟨h1_, h2_⟩ <;> first | exact c_1 h_ | exact c_6 h_ | exact c_16 h2_ | exact c_11 h1_ | exact c_21 h1_ | exact c_26 h2_))
        · refine g_iloadn C dX5_isUnder_19 1 rfl rfl ?_
          refine g_iconst C 2 dX5_isUnder_20 (by decide) ?_
          refine g_icmp_ne C 33 dX5_isUnder_21 rfl (fun c_21 => ?_) (fun c_21 => ?_)
          · refine g_iconst C 0 dX5_isUnder_33 (by decide) ?_
            exact g_zret C () hr rfl dX5_isUnder_34 (Nat.le_of_ble_eq_true rfl) (Nat.le_of_ble_eq_true rfl) rfl (by first | (refine (bI_t ?_).symm; first | exact Or.inl c_1 | exact Or.inr (Or.inl c_6) | exact Or.inr (Or.inr (Or.inl ⟨c_11, c_16⟩)) | exact Or.inr (Or.inr (Or.inr ⟨c_21, c_26⟩))) | (refine (bI_n ?_).symm; intro h_; rcases h_ with h_ | h_ | ⟨h1_, h2_⟩ | ⟨h1_, h2_⟩ <;> first | exact c_1 h_ | exact c_6 h_ | exact c_16 h2_ | exact c_11 h1_ | exact c_21 h1_ | exact c_26 h2_))
          · refine g_iloadn C dX5_isUnder_24 0 rfl rfl ?_
            refine g_iconst C 4 dX5_isUnder_25 (by decide) ?_
            refine g_icmp_ne C 33 dX5_isUnder_26 rfl (fun c_26 => ?_) (fun c_26 => ?_)
            · refine g_iconst C 0 dX5_isUnder_33 (by decide) ?_
              exact g_zret C () hr rfl dX5_isUnder_34 (Nat.le_of_ble_eq_true rfl) (Nat.le_of_ble_eq_true rfl) rfl (by first | (refine (bI_t ?_).symm; first | exact Or.inl c_1 | exact Or.inr (Or.inl c_6) | exact Or.inr (Or.inr (Or.inl ⟨c_11, c_16⟩)) | exact Or.inr (Or.inr (Or.inr ⟨c_21, c_26⟩))) | (refine (bI_n ?_).symm; intro h_; rcases h_ with h_ | h_ | ⟨h1_, h2_⟩ | ⟨h1_, h2_⟩ <;> first | exact c_1 h_ | exact c_6 h_ | exact c_16 h2_ | exact c_11 h1_ | exact c_21 h1_ | exact c_26 h2_))
            · refine g_iconst C 1 dX5_isUnder_29 (by decide) ?_
              refine g_goto C 34 dX5_isUnder_30 rfl ?_
              exact g_zret C () hr rfl dX5_isUnder_34 (Nat.le_of_ble_eq_true rfl) (Nat.le_of_ble_eq_true rfl) rfl (by first | (refine (bI_t ?_).symm; first | exact Or.inl c_1 | exact Or.inr (Or.inl c_6) | exact Or.inr (Or.inr (Or.inl ⟨c_11, c_16⟩)) | exact Or.inr (Or.inr (Or.inr ⟨c_21, c_26⟩))) | (refine (bI_n ?_).symm; intro h_; rcases h_ with h_ | h_ | ⟨h1_, h2_⟩ | ⟨h1_, h2_⟩ <;> first | exact c_1 h_ | exact c_6 h_ | exact c_16 h2_ | exact c_11 h1_ | exact c_21 h1_ | exact c_26 h2_))

