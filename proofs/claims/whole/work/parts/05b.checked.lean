theorem ax_ckr_74 : ax_ckr 74 12 = true := by decide +kernel
theorem ax_ckr_86 : ax_ckr 86 10 = true := by decide +kernel
theorem ax_ckr_96 : ax_ckr 96 10 = true := by decide +kernel
theorem ax_ckr_106 : ax_ckr 106 13 = true := by decide +kernel
theorem ax_ckr_119 : ax_ckr 119 13 = true := by decide +kernel
