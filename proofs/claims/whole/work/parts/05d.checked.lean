theorem ax_ckr_180 : ax_ckr 180 15 = true := by decide +kernel
theorem ax_ckr_195 : ax_ckr 195 11 = true := by decide +kernel
theorem ax_ckr_206 : ax_ckr 206 8 = true := by decide +kernel
theorem ax_ckr_214 : ax_ckr 214 12 = true := by decide +kernel
theorem ax_ckr_226 : ax_ckr 226 11 = true := by decide +kernel
