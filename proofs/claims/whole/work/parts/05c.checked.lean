theorem ax_ckr_131 : ax_ckr 131 11 = true := by decide +kernel
theorem ax_ckr_142 : ax_ckr 142 11 = true := by decide +kernel
theorem ax_ckr_153 : ax_ckr 153 4 = true := by decide +kernel
theorem ax_ckr_157 : ax_ckr 157 15 = true := by decide +kernel
theorem ax_ckr_172 : ax_ckr 172 8 = true := by decide +kernel
