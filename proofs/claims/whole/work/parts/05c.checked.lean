theorem ax_ckr_132 : ax_ckr 132 13 = true := by decide +kernel
theorem ax_ckr_145 : ax_ckr 145 8 = true := by decide +kernel
theorem ax_ckr_153 : ax_ckr 153 4 = true := by decide +kernel
theorem ax_ckr_157 : ax_ckr 157 15 = true := by decide +kernel
theorem ax_ckr_172 : ax_ckr 172 8 = true := by decide +kernel
