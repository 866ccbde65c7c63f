theorem kbL8 : xbk pOL code 352 bL_8 = true := by decide +kernel
theorem kbL9 : xbk pOL code 385 bL_9 = true := by decide +kernel
theorem kbL10 : xbk pOL code 418 bL_10 = true := by decide +kernel
theorem kbL11 : xbk pOL code 431 bL_11 = true := by decide +kernel
theorem kbL12 : xbk pOL code 464 bL_12 = true := by decide +kernel
theorem kbL13 : xbk pOL code 507 bL_13 = true := by decide +kernel
theorem kbL14 : xbk pOL code 550 bL_14 = true := by decide +kernel
theorem kbL15 : xbk pOL code 573 bL_15 = true := by decide +kernel
