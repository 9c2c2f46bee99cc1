theorem kX8_isTime_138 : Cond.constantLong RX8 138 9999 ∈ wsX8_isTime := by decide +kernel
theorem kX8_isTime_144 : Cond.constantLong RX8 144 7 ∈ wsX8_isTime := by decide +kernel
theorem kX8_tenTo_43 : Cond.constantLong RX8 43 10 ∈ wsX8_tenTo := by decide +kernel