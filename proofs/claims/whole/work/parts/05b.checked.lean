theorem ax_ckr_74 : ax_ckr 74 12 = true := by decide +kernel
theorem ax_ckr_86 : ax_ckr 86 9 = true := by decide +kernel
theorem ax_ckr_95 : ax_ckr 95 10 = true := by decide +kernel
theorem ax_ckr_105 : ax_ckr 105 13 = true := by decide +kernel
theorem ax_ckr_118 : ax_ckr 118 13 = true := by decide +kernel
