def upX : List String := ["java/lang/RuntimeException", "java/lang/Exception"]
theorem ta_iae : TA "LandingPads" n_iae 47 51 7 prog_14_method_2_code upX := by
  refine ⟨⟨by decide +kernel, by decide +kernel, by decide +kernel, by decide +kernel⟩, by decide +kernel, by decide +kernel, rfl, by decide +kernel, by decide +kernel, by decide +kernel, ?_⟩
  decide +kernel
theorem ta_ise : TA "LandingPads" n_ise 58 62 7 prog_15_method_2_code upX := by
  refine ⟨⟨by decide +kernel, by decide +kernel, by decide +kernel, by decide +kernel⟩, by decide +kernel, by decide +kernel, rfl, by decide +kernel, by decide +kernel, by decide +kernel, ?_⟩
  decide +kernel
theorem ta_nse : TA "LandingPads" n_nse 121 125 13 prog_20_method_4_code upX := by
  refine ⟨⟨by decide +kernel, by decide +kernel, by decide +kernel, by decide +kernel⟩, by decide +kernel, by decide +kernel, rfl, by decide +kernel, by decide +kernel, by decide +kernel, ?_⟩
  decide +kernel
