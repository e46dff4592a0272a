theorem ax_ckr_186 : ax_ckr 186 15 = true := by decide +kernel
theorem ax_ckr_201 : ax_ckr 201 11 = true := by decide +kernel
theorem ax_ckr_212 : ax_ckr 212 8 = true := by decide +kernel
theorem ax_ckr_220 : ax_ckr 220 12 = true := by decide +kernel
theorem ax_ckr_232 : ax_ckr 232 11 = true := by decide +kernel
