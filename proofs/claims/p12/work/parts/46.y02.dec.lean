theorem d_L_law_37 : decode code 37 = .ok (.bipush 31, 2) := by decide +kernel
theorem d_L_law_39 : decode code 39 = .ok (.iand, 1) := by decide +kernel
theorem d_L_law_744 : decode code 744 = .ok (.iinc 4 6, 3) := by decide +kernel
theorem d_L_law_747 : decode code 747 = .ok (.goto (-724), 3) := by decide +kernel
theorem d_L_law_40 : decode code 40 = .ok (.tableswitch 704 0 16 #[84, 124, 188, 261, 277, 302, 330, 370, 410, 486, 497, 545, 570, 598, 611, 624, 664], 84) := by decide +kernel
