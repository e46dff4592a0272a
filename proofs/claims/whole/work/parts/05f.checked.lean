def ax_ckl (i : Nat) : Bool := (ax_nth (ax_code 255) i).all (ax_ck 255)
theorem ax_ckl_0 : ax_ckl 0 = true := by decide +kernel
theorem ax_ckl_1 : ax_ckl 1 = true := by decide +kernel
theorem ax_ckl_2 : ax_ckl 2 = true := by decide +kernel
theorem ax_ckl_3 : ax_ckl 3 = true := by decide +kernel
theorem ax_ckl_4 : ax_ckl 4 = true := by decide +kernel
theorem ax_ckl_5 : ax_ckl 5 = true := by decide +kernel
theorem ax_ckl_6 : ax_ckl 6 = true := by decide +kernel
theorem ax_ckl_7 : ax_ckl 7 = true := by decide +kernel
theorem ax_ckl_8 : ax_ckl 8 = true := by decide +kernel
theorem ax_ckl_9 : ax_ckl 9 = true := by decide +kernel
theorem ax_ckl_10 : ax_ckl 10 = true := by decide +kernel
theorem ax_ckl_11 : ax_ckl 11 = true := by decide +kernel
theorem ax_ckl_12 : ax_ckl 12 = true := by decide +kernel
theorem ax_ckl_13 : ax_ckl 13 = true := by decide +kernel
theorem ax_ckl_14 : ax_ckl 14 = true := by decide +kernel
