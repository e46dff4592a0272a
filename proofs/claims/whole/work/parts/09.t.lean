theorem ax_tg1 : goodWord (.arrayOver (.array .int)) = true := by decide
theorem ax_tg2 : goodWord (.arrayOver (.object "A")) = true := by decide
