theorem ax_ckr_79 : ax_ckr 79 12 = true := by decide +kernel
theorem ax_ckr_91 : ax_ckr 91 10 = true := by decide +kernel
theorem ax_ckr_101 : ax_ckr 101 10 = true := by decide +kernel
theorem ax_ckr_111 : ax_ckr 111 13 = true := by decide +kernel
theorem ax_ckr_124 : ax_ckr 124 13 = true := by decide +kernel
