/-! ===== CONTRACTS: the reader: kindOfSign ===== -/
theorem c_sign {h : qH} (c : Int) : qEx M_X4_kindOfSign 0 [qI c] [] h (some (qI (sgk c))) h := by
  refine z_iload_n d_X4_kindOfSign_0 rfl rfl ?_
  by_cases h1 : c = 44
  · subst h1
    refine z_lookup 38 d_X4_kindOfSign_1 (by decide) (off := 37) (by decide) (by decide) ?_
    refine z_iconst d_X4_kindOfSign_38 (by decide) ?_
    exact z_iret d_X4_kindOfSign_39 rfl rfl rfl
  · by_cases h2 : c = 59
    · subst h2
      refine z_lookup 36 d_X4_kindOfSign_1 (by decide) (off := 35) (by decide) (by decide) ?_
      refine z_iconst d_X4_kindOfSign_36 (by decide) ?_
      exact z_iret d_X4_kindOfSign_37 rfl rfl rfl
    · by_cases h3 : c = 62
      · subst h3
        refine z_lookup 40 d_X4_kindOfSign_1 (by decide) (off := 39) (by decide) (by decide) ?_
        refine z_iconst d_X4_kindOfSign_40 (by decide) ?_
        exact z_iret d_X4_kindOfSign_41 rfl rfl rfl
      · have e : sgk c = 1 := by unfold sgk; rw [if_neg h2, if_neg h1, if_neg h3]
        rw [e]
        refine z_lookup 42 d_X4_kindOfSign_1 (by decide) (off := 41) (by simp [Op.lookupswitch.offset, h1, h2, h3, Ne.symm h1, Ne.symm h2, Ne.symm h3]) (by decide) ?_
        refine z_iconst d_X4_kindOfSign_42 (by decide) ?_
        exact z_iret d_X4_kindOfSign_43 rfl rfl rfl
