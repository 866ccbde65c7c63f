theorem kbL24 : xbk pOL code 770 bL_24 = true := by decide +kernel
theorem kbL25 : xbk pOL code 803 bL_25 = true := by decide +kernel
theorem kbL26 : xbk pOL code 836 bL_26 = true := by decide +kernel
theorem kbL27 : xbk pOL code 889 bL_27 = true := by decide +kernel
theorem kbL28 : xbk pOL code 922 bL_28 = true := by decide +kernel
theorem kbL29 : xbk pOL code 965 bL_29 = true := by decide +kernel
theorem kbL30 : xbk pOL code 988 bL_30 = true := by decide +kernel
theorem kbL31 : xbk pOL code 1011 bL_31 = true := by decide +kernel
