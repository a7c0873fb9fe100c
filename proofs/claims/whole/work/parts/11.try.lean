set_option maxRecDepth 100000 in
theorem ft_k40 : ft_chk 40 = true := by decide +kernel
