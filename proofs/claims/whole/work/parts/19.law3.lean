theorem kbL16 : xbk pOL code 586 bL_16 = true := by decide +kernel
theorem kbL17 : xbk pOL code 629 bL_17 = true := by decide +kernel
theorem kbL18 : xbk pOL code 642 bL_18 = true := by decide +kernel
theorem kbL19 : xbk pOL code 665 bL_19 = true := by decide +kernel
theorem kbL20 : xbk pOL code 688 bL_20 = true := by decide +kernel
theorem kbL21 : xbk pOL code 711 bL_21 = true := by decide +kernel
theorem kbL22 : xbk pOL code 734 bL_22 = true := by decide +kernel
theorem kbL23 : xbk pOL code 757 bL_23 = true := by decide +kernel
