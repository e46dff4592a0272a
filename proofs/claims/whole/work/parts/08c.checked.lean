theorem ax_ckr_137 : ax_ckr 137 11 = true := by decide +kernel
theorem ax_ckr_148 : ax_ckr 148 11 = true := by decide +kernel
theorem ax_ckr_159 : ax_ckr 159 4 = true := by decide +kernel
theorem ax_ckr_163 : ax_ckr 163 15 = true := by decide +kernel
theorem ax_ckr_178 : ax_ckr 178 8 = true := by decide +kernel
