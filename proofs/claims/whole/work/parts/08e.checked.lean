theorem ax_ckr_243 : ax_ckr 243 8 = true := by decide +kernel
theorem ax_ckr_251 : ax_ckr 251 5 = true := by decide +kernel
theorem ax_ckr_256 : ax_ckr 256 5 = true := by decide +kernel
