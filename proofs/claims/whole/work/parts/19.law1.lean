theorem kbL0 : xbk pOL code 0 bL_0 = true := by decide +kernel
theorem kbL1 : xbk pOL code 18 bL_1 = true := by decide +kernel
theorem kbL2 : xbk pOL code 184 bL_2 = true := by decide +kernel
theorem kbL3 : xbk pOL code 247 bL_3 = true := by decide +kernel
theorem kbL4 : xbk pOL code 270 bL_4 = true := by decide +kernel
theorem kbL5 : xbk pOL code 283 bL_5 = true := by decide +kernel
theorem kbL6 : xbk pOL code 296 bL_6 = true := by decide +kernel
theorem kbL7 : xbk pOL code 319 bL_7 = true := by decide +kernel
