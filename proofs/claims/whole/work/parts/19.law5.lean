theorem kbL32 : xbk pOL code 1034 bL_32 = true := by decide +kernel
theorem kbL33 : xbk pOL code 1087 bL_33 = true := by decide +kernel
theorem kbL34 : xbk pOL code 1110 bL_34 = true := by decide +kernel
theorem kbL35 : xbk pOL code 1133 bL_35 = true := by decide +kernel
theorem kbL36 : xbk pOL code 1156 bL_36 = true := by decide +kernel
theorem kbL37 : xbk pOL code 1162 bL_37 = true := by decide +kernel
