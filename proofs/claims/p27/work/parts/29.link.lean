/-! a link that gen_links leaves out: the method's name is read off the tables -/
theorem wd_X4_admit : jWd yX4_admit RX4 cX4_admit 4 (some .int) 2 := ⟨kim_X4_admit, kse_X4_admit, kini_X4, kco_X4_admit, by decide +kernel⟩
