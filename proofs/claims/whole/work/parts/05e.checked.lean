theorem ax_ckr_237 : ax_ckr 237 8 = true := by decide +kernel
theorem ax_ckr_245 : ax_ckr 245 5 = true := by decide +kernel
theorem ax_ckr_250 : ax_ckr 250 5 = true := by decide +kernel
