/-! tables, part 1: written by wip/tables.py -/
theorem qf_t103 : qf_chk 103 [(.ofNat 1, .ofNat 1, .ofNat 26), (.ofNat 2, .negSucc 0, .ofNat 13), (.ofNat 2, .ofNat 1, .ofNat 13), (.ofNat 4, .negSucc 2, .ofNat 7), (.ofNat 4, .ofNat 3, .ofNat 7)] 0x2004640048218483008620102418820 = true := by decide +kernel
theorem qf_t104 : qf_chk 104 [(.ofNat 1, .ofNat 0, .ofNat 26), (.ofNat 2, .ofNat 0, .ofNat 13), (.ofNat 3, .negSucc 1, .ofNat 9), (.ofNat 3, .ofNat 2, .ofNat 9), (.ofNat 5, .negSucc 3, .ofNat 6), (.ofNat 5, .ofNat 4, .ofNat 6)] 0x1008119403094442044028c2500c82188a4004a418820 = true := by decide +kernel
theorem qf_t107 : qf_chk 107 [(.ofNat 1, .ofNat 1, .ofNat 27), (.ofNat 3, .negSucc 0, .ofNat 9), (.ofNat 3, .ofNat 1, .ofNat 9)] 0x10080208820 = true := by decide +kernel
theorem qf_t108 : qf_chk 108 [(.ofNat 1, .ofNat 0, .ofNat 27), (.ofNat 4, .negSucc 1, .ofNat 7), (.ofNat 4, .ofNat 2, .ofNat 7)] 0x10080208820 = true := by decide +kernel
theorem qf_t111 : qf_chk 111 [(.ofNat 1, .ofNat 1, .ofNat 28), (.ofNat 2, .negSucc 0, .ofNat 14), (.ofNat 2, .ofNat 1, .ofNat 14), (.ofNat 3, .ofNat 3, .ofNat 10), (.ofNat 4, .negSucc 0, .ofNat 7), (.ofNat 4, .ofNat 1, .ofNat 7), (.ofNat 5, .negSucc 2, .ofNat 6), (.ofNat 5, .ofNat 3, .ofNat 6)] 0x2802611067010e208ca609c602184530803284e41048501cc320cc1394021944730081398a418820 = true := by decide +kernel
theorem qf_t112 : qf_chk 112 [(.ofNat 1, .ofNat 0, .ofNat 28), (.ofNat 4, .ofNat 0, .ofNat 7)] 0x420 = true := by decide +kernel
theorem qf_t115 : qf_chk 115 [(.ofNat 1, .ofNat 1, .ofNat 29), (.ofNat 5, .ofNat 5, .ofNat 7)] 0x420 = true := by decide +kernel
theorem qf_t116 : qf_chk 116 [(.ofNat 1, .ofNat 0, .ofNat 29), (.ofNat 2, .ofNat 2, .ofNat 15), (.ofNat 3, .negSucc 1, .ofNat 10), (.ofNat 3, .ofNat 2, .ofNat 10), (.ofNat 5, .negSucc 1, .ofNat 6), (.ofNat 5, .ofNat 2, .ofNat 6)] 0x200231140510464088a020c61010a210c85004a418820 = true := by decide +kernel
theorem qf_t119 : qf_chk 119 [(.ofNat 1, .ofNat 1, .ofNat 30), (.ofNat 2, .negSucc 0, .ofNat 15), (.ofNat 2, .ofNat 1, .ofNat 15), (.ofNat 3, .negSucc 0, .ofNat 10), (.ofNat 3, .ofNat 1, .ofNat 10), (.ofNat 4, .negSucc 2, .ofNat 8), (.ofNat 4, .ofNat 3, .ofNat 8), (.ofNat 5, .negSucc 0, .ofNat 6), (.ofNat 5, .ofNat 1, .ofNat 6), (.ofNat 6, .ofNat 5, .ofNat 6)] 0x18a8388241a4c20112128ce8280291984821d0448803384a63a4600a0861144130d0501d2409447200c940c83404c74940219c851250030528398a418820 = true := by decide +kernel
theorem qf_t120 : qf_chk 120 [(.ofNat 1, .ofNat 0, .ofNat 30), (.ofNat 2, .ofNat 0, .ofNat 15), (.ofNat 3, .ofNat 0, .ofNat 10), (.ofNat 5, .ofNat 0, .ofNat 6)] 0x4430806210c0118820 = true := by decide +kernel
theorem qf_t123 : qf_chk 123 [(.ofNat 1, .ofNat 1, .ofNat 31), (.ofNat 3, .ofNat 3, .ofNat 11)] 0x420 = true := by decide +kernel
theorem qf_t124 : qf_chk 124 [(.ofNat 1, .ofNat 0, .ofNat 31), (.ofNat 5, .negSucc 3, .ofNat 7), (.ofNat 5, .ofNat 4, .ofNat 7)] 0x10080208820 = true := by decide +kernel
theorem qf_t127 : qf_chk 127 [(.ofNat 1, .ofNat 1, .ofNat 32), (.ofNat 2, .negSucc 0, .ofNat 16), (.ofNat 2, .ofNat 1, .ofNat 16), (.ofNat 4, .negSucc 0, .ofNat 8), (.ofNat 4, .ofNat 1, .ofNat 8)] 0x100c440082418c240084400c2418820 = true := by decide +kernel
theorem qf_t128 : qf_chk 128 [(.ofNat 1, .ofNat 0, .ofNat 32), (.ofNat 3, .negSucc 1, .ofNat 11), (.ofNat 3, .ofNat 2, .ofNat 11), (.ofNat 4, .ofNat 4, .ofNat 9)] 0x44308c021006118820 = true := by decide +kernel
theorem qf_t131 : qf_chk 131 [(.ofNat 1, .ofNat 1, .ofNat 33), (.ofNat 3, .negSucc 0, .ofNat 11), (.ofNat 3, .ofNat 1, .ofNat 11), (.ofNat 5, .negSucc 2, .ofNat 7), (.ofNat 5, .ofNat 3, .ofNat 7)] 0x100c440082418c240084400c2418820 = true := by decide +kernel
theorem qf_t132 : qf_chk 132 [(.ofNat 1, .ofNat 0, .ofNat 33), (.ofNat 2, .ofNat 2, .ofNat 17), (.ofNat 3, .ofNat 0, .ofNat 11), (.ofNat 6, .ofNat 6, .ofNat 7)] 0x4430806210c0118820 = true := by decide +kernel
theorem qf_t135 : qf_chk 135 [(.ofNat 1, .ofNat 1, .ofNat 34), (.ofNat 2, .negSucc 0, .ofNat 17), (.ofNat 2, .ofNat 1, .ofNat 17), (.ofNat 4, .negSucc 2, .ofNat 9), (.ofNat 4, .ofNat 3, .ofNat 9), (.ofNat 5, .ofNat 5, .ofNat 8)] 0x82419443004a40808510c8128c0219440204a418820 = true := by decide +kernel
theorem qf_t136 : qf_chk 136 [(.ofNat 1, .ofNat 0, .ofNat 34), (.ofNat 2, .ofNat 0, .ofNat 17), (.ofNat 5, .negSucc 1, .ofNat 7), (.ofNat 5, .ofNat 2, .ofNat 7)] 0x80430046210c0118820 = true := by decide +kernel
theorem qf_t139 : qf_chk 139 [(.ofNat 1, .ofNat 1, .ofNat 35), (.ofNat 5, .negSucc 0, .ofNat 7), (.ofNat 5, .ofNat 1, .ofNat 7)] 0x10080208820 = true := by decide +kernel
theorem qf_t140 : qf_chk 140 [(.ofNat 1, .ofNat 0, .ofNat 35), (.ofNat 3, .negSucc 1, .ofNat 12), (.ofNat 3, .ofNat 2, .ofNat 12), (.ofNat 4, .negSucc 1, .ofNat 9), (.ofNat 4, .ofNat 2, .ofNat 9), (.ofNat 5, .ofNat 0, .ofNat 7)] 0x82419443004a40808510c8128c0219440204a418820 = true := by decide +kernel
theorem qf_t143 : qf_chk 143 [(.ofNat 1, .ofNat 1, .ofNat 36), (.ofNat 2, .negSucc 0, .ofNat 18), (.ofNat 2, .ofNat 1, .ofNat 18), (.ofNat 3, .negSucc 0, .ofNat 12), (.ofNat 3, .ofNat 1, .ofNat 12), (.ofNat 4, .negSucc 0, .ofNat 9), (.ofNat 4, .ofNat 1, .ofNat 9), (.ofNat 6, .negSucc 4, .ofNat 7), (.ofNat 6, .ofNat 1, .ofNat 6), (.ofNat 6, .ofNat 5, .ofNat 7)] 0x21801408e51a4c02a4e110c88014681242431c294100329c4641c40198814944148cc5020e438825200c940ca321c2849802190c249d0028528398a418820 = true := by decide +kernel
theorem qf_t144 : qf_chk 144 [(.ofNat 1, .ofNat 0, .ofNat 36), (.ofNat 4, .ofNat 0, .ofNat 9), (.ofNat 5, .negSucc 3, .ofNat 8), (.ofNat 5, .ofNat 4, .ofNat 8)] 0x80430046210c0118820 = true := by decide +kernel
theorem qf_t147 : qf_chk 147 [(.ofNat 1, .ofNat 1, .ofNat 37), (.ofNat 3, .ofNat 3, .ofNat 13)] 0x420 = true := by decide +kernel
theorem qf_t148 : qf_chk 148 [(.ofNat 1, .ofNat 0, .ofNat 37), (.ofNat 2, .ofNat 2, .ofNat 19)] 0x420 = true := by decide +kernel
theorem qf_t151 : qf_chk 151 [(.ofNat 1, .ofNat 1, .ofNat 38), (.ofNat 2, .negSucc 0, .ofNat 19), (.ofNat 2, .ofNat 1, .ofNat 19), (.ofNat 4, .negSucc 2, .ofNat 10), (.ofNat 4, .ofNat 3, .ofNat 10), (.ofNat 5, .negSucc 2, .ofNat 8), (.ofNat 5, .ofNat 3, .ofNat 8)] 0x100885198021848628866004a42040530865204c30086628804098a418820 = true := by decide +kernel
theorem qf_t152 : qf_chk 152 [(.ofNat 1, .ofNat 0, .ofNat 38), (.ofNat 2, .ofNat 0, .ofNat 19), (.ofNat 3, .negSucc 1, .ofNat 13), (.ofNat 3, .ofNat 2, .ofNat 13), (.ofNat 6, .negSucc 3, .ofNat 7), (.ofNat 6, .ofNat 4, .ofNat 7)] 0x200231140510464088a020c61010a210c85004a418820 = true := by decide +kernel
theorem qf_t155 : qf_chk 155 [(.ofNat 1, .ofNat 1, .ofNat 39), (.ofNat 3, .negSucc 0, .ofNat 13), (.ofNat 3, .ofNat 1, .ofNat 13), (.ofNat 5, .ofNat 5, .ofNat 9)] 0x44308c021006118820 = true := by decide +kernel
theorem qf_t156 : qf_chk 156 [(.ofNat 1, .ofNat 0, .ofNat 39), (.ofNat 3, .ofNat 0, .ofNat 13), (.ofNat 5, .negSucc 1, .ofNat 8), (.ofNat 5, .ofNat 2, .ofNat 8)] 0x80430046210c0118820 = true := by decide +kernel
theorem qf_t159 : qf_chk 159 [(.ofNat 1, .ofNat 1, .ofNat 40), (.ofNat 2, .negSucc 0, .ofNat 20), (.ofNat 2, .ofNat 1, .ofNat 20), (.ofNat 3, .ofNat 3, .ofNat 14), (.ofNat 4, .negSucc 0, .ofNat 10), (.ofNat 4, .ofNat 1, .ofNat 10), (.ofNat 5, .negSucc 0, .ofNat 8), (.ofNat 5, .ofNat 1, .ofNat 8), (.ofNat 6, .negSucc 2, .ofNat 7), (.ofNat 6, .ofNat 3, .ofNat 7)] 0x2004741423324053048911c681192008ca441ce102062224a641023480e6114a918808304e4088a43980848c67224c14140230d0511d2020528398a418820 = true := by decide +kernel
theorem qf_t160 : qf_chk 160 [(.ofNat 1, .ofNat 0, .ofNat 40), (.ofNat 4, .ofNat 4, .ofNat 11), (.ofNat 5, .ofNat 0, .ofNat 8), (.ofNat 7, .ofNat 6, .ofNat 7)] 0x4430806210c0118820 = true := by decide +kernel
theorem qf_t163 : qf_chk 163 [(.ofNat 1, .ofNat 1, .ofNat 41)] 0x0 = true := by decide +kernel
theorem qf_t164 : qf_chk 164 [(.ofNat 1, .ofNat 0, .ofNat 41), (.ofNat 2, .ofNat 2, .ofNat 21), (.ofNat 3, .negSucc 1, .ofNat 14), (.ofNat 3, .ofNat 2, .ofNat 14), (.ofNat 5, .negSucc 3, .ofNat 9), (.ofNat 5, .ofNat 4, .ofNat 9), (.ofNat 6, .negSucc 1, .ofNat 7), (.ofNat 6, .ofNat 2, .ofNat 7)] 0x2804620467010e30944611c2030c8530c0111ca4204c2280e309467010c21888539801398a418820 = true := by decide +kernel
theorem qf_t167 : qf_chk 167 [(.ofNat 1, .ofNat 1, .ofNat 42), (.ofNat 2, .negSucc 0, .ofNat 21), (.ofNat 2, .ofNat 1, .ofNat 21), (.ofNat 3, .negSucc 0, .ofNat 14), (.ofNat 3, .ofNat 1, .ofNat 14), (.ofNat 4, .negSucc 2, .ofNat 11), (.ofNat 4, .ofNat 3, .ofNat 11), (.ofNat 6, .negSucc 4, .ofNat 8), (.ofNat 6, .negSucc 0, .ofNat 7), (.ofNat 6, .ofNat 1, .ofNat 7), (.ofNat 6, .ofNat 5, .ofNat 8)] 0x929c08088861a8a1028e33090449c023114128d28028c812461214e839043015215182352404418e2288c11950a024e4208a1498075206640c813a54500864495423a0060a928398a418820 = true := by decide +kernel
theorem qf_t168 : qf_chk 168 [(.ofNat 1, .ofNat 0, .ofNat 42), (.ofNat 2, .ofNat 0, .ofNat 21), (.ofNat 3, .ofNat 0, .ofNat 14), (.ofNat 6, .ofNat 0, .ofNat 7)] 0x4430806210c0118820 = true := by decide +kernel
theorem qf_t171 : qf_chk 171 [(.ofNat 1, .ofNat 1, .ofNat 43), (.ofNat 5, .negSucc 2, .ofNat 9), (.ofNat 5, .ofNat 3, .ofNat 9), (.ofNat 7, .ofNat 5, .ofNat 7)] 0x44308c021006118820 = true := by decide +kernel
theorem qf_t172 : qf_chk 172 [(.ofNat 1, .ofNat 0, .ofNat 43), (.ofNat 4, .negSucc 1, .ofNat 11), (.ofNat 4, .ofNat 2, .ofNat 11)] 0x10080208820 = true := by decide +kernel
theorem qf_t175 : qf_chk 175 [(.ofNat 1, .ofNat 1, .ofNat 44), (.ofNat 2, .negSucc 0, .ofNat 22), (.ofNat 2, .ofNat 1, .ofNat 22), (.ofNat 4, .negSucc 0, .ofNat 11), (.ofNat 4, .ofNat 1, .ofNat 11), (.ofNat 7, .ofNat 7, .ofNat 8)] 0x44321423014441008128c6509002208a0184a418820 = true := by decide +kernel
theorem qf_t176 : qf_chk 176 [(.ofNat 1, .ofNat 0, .ofNat 44), (.ofNat 3, .negSucc 1, .ofNat 15), (.ofNat 3, .ofNat 2, .ofNat 15), (.ofNat 4, .ofNat 0, .ofNat 11), (.ofNat 5, .negSucc 1, .ofNat 9), (.ofNat 5, .ofNat 2, .ofNat 9)] 0x200411940508c441040520c232900218880284a418820 = true := by decide +kernel
theorem qf_t179 : qf_chk 179 [(.ofNat 1, .ofNat 1, .ofNat 45), (.ofNat 3, .negSucc 0, .ofNat 15), (.ofNat 3, .ofNat 1, .ofNat 15), (.ofNat 5, .negSucc 0, .ofNat 9), (.ofNat 5, .ofNat 1, .ofNat 9)] 0x2004640048218483008620102418820 = true := by decide +kernel
theorem qf_t180 : qf_chk 180 [(.ofNat 1, .ofNat 0, .ofNat 45), (.ofNat 2, .ofNat 2, .ofNat 23), (.ofNat 5, .ofNat 0, .ofNat 9), (.ofNat 7, .ofNat 4, .ofNat 7)] 0x4430806210c0118820 = true := by decide +kernel
theorem qf_t183 : qf_chk 183 [(.ofNat 1, .ofNat 1, .ofNat 46), (.ofNat 2, .negSucc 0, .ofNat 23), (.ofNat 2, .ofNat 1, .ofNat 23), (.ofNat 3, .ofNat 3, .ofNat 16), (.ofNat 4, .negSucc 2, .ofNat 12), (.ofNat 4, .ofNat 3, .ofNat 12), (.ofNat 6, .negSucc 2, .ofNat 8), (.ofNat 6, .ofNat 3, .ofNat 8)] 0x2804608c87010e11146611c60204c53040329c4408885018e3194273100220cc2380a1398a418820 = true := by decide +kernel
theorem qf_t184 : qf_chk 184 [(.ofNat 1, .ofNat 0, .ofNat 46), (.ofNat 2, .ofNat 0, .ofNat 23), (.ofNat 5, .negSucc 3, .ofNat 10), (.ofNat 5, .ofNat 4, .ofNat 10)] 0x80430046210c0118820 = true := by decide +kernel
theorem qf_t187 : qf_chk 187 [(.ofNat 1, .ofNat 1, .ofNat 47), (.ofNat 7, .ofNat 3, .ofNat 7)] 0x420 = true := by decide +kernel
theorem qf_t188 : qf_chk 188 [(.ofNat 1, .ofNat 0, .ofNat 47), (.ofNat 3, .negSucc 1, .ofNat 16), (.ofNat 3, .ofNat 2, .ofNat 16), (.ofNat 7, .negSucc 5, .ofNat 8), (.ofNat 7, .ofNat 6, .ofNat 8)] 0x100c440082418c240084400c2418820 = true := by decide +kernel
theorem qf_t191 : qf_chk 191 [(.ofNat 1, .ofNat 1, .ofNat 48), (.ofNat 2, .negSucc 0, .ofNat 24), (.ofNat 2, .ofNat 1, .ofNat 24), (.ofNat 3, .negSucc 0, .ofNat 16), (.ofNat 3, .ofNat 1, .ofNat 16), (.ofNat 4, .negSucc 0, .ofNat 12), (.ofNat 4, .ofNat 1, .ofNat 12), (.ofNat 5, .negSucc 2, .ofNat 10), (.ofNat 5, .ofNat 3, .ofNat 10), (.ofNat 6, .negSucc 4, .ofNat 9), (.ofNat 6, .negSucc 0, .ofNat 8), (.ofNat 6, .ofNat 1, .ofNat 8), (.ofNat 6, .ofNat 5, .ofNat 9)] 0xb324012a14221c6c3200c1a829388a45a4072ac8c105033280c2a8c259c61221211acc20118a2a4e82a8820052332d0c3a02c59123014ea1194911d83011060aca23846a3150c02d24209012ace60258a19ca32250a0ad8600864320ec12d2a0142c5a928398a418820 = true := by decide +kernel
theorem qf_t192 : qf_chk 192 [(.ofNat 1, .ofNat 0, .ofNat 48), (.ofNat 3, .ofNat 0, .ofNat 16), (.ofNat 4, .ofNat 4, .ofNat 13), (.ofNat 7, .ofNat 2, .ofNat 7)] 0x4430806210c0118820 = true := by decide +kernel
theorem qf_t195 : qf_chk 195 [(.ofNat 1, .ofNat 1, .ofNat 49), (.ofNat 3, .ofNat 3, .ofNat 17), (.ofNat 5, .ofNat 5, .ofNat 11), (.ofNat 7, .ofNat 1, .ofNat 7)] 0x4430806210c0118820 = true := by decide +kernel
theorem qf_t196 : qf_chk 196 [(.ofNat 1, .ofNat 0, .ofNat 49), (.ofNat 2, .ofNat 2, .ofNat 25), (.ofNat 5, .negSucc 1, .ofNat 10), (.ofNat 5, .ofNat 2, .ofNat 10)] 0x80430046210c0118820 = true := by decide +kernel
theorem qf_t199 : qf_chk 199 [(.ofNat 1, .ofNat 1, .ofNat 50), (.ofNat 2, .negSucc 0, .ofNat 25), (.ofNat 2, .ofNat 1, .ofNat 25), (.ofNat 4, .negSucc 2, .ofNat 13), (.ofNat 4, .ofNat 3, .ofNat 13), (.ofNat 5, .negSucc 0, .ofNat 10), (.ofNat 5, .ofNat 1, .ofNat 10), (.ofNat 7, .negSucc 4, .ofNat 8), (.ofNat 7, .ofNat 5, .ofNat 8)] 0x700866090a802081114c33888100d0539861008e4418a610ce50050409504018e2190c5404e3008a33990201028398a418820 = true := by decide +kernel
theorem qf_t200 : qf_chk 200 [(.ofNat 1, .ofNat 0, .ofNat 50), (.ofNat 2, .ofNat 0, .ofNat 25), (.ofNat 3, .negSucc 1, .ofNat 17), (.ofNat 3, .ofNat 2, .ofNat 17), (.ofNat 6, .negSucc 3, .ofNat 9), (.ofNat 6, .ofNat 4, .ofNat 9)] 0x200231140510464088a020c61010a210c85004a418820 = true := by decide +kernel
theorem qf_b103 (d : Nat) (h1 : 103 ≤ d) (h2 : d ≤ 120) (hv : d % 4 = 0 ∨ d % 4 = 3) : ∃ L N, qf_chk d L N = true := by
  have h : d = 103 ∨ d = 104 ∨ d = 107 ∨ d = 108 ∨ d = 111 ∨ d = 112 ∨ d = 115 ∨ d = 116 ∨ d = 119 ∨ d = 120 := by omega
  rcases h with rfl | rfl | rfl | rfl | rfl | rfl | rfl | rfl | rfl | rfl
  · exact ⟨_, _, qf_t103⟩
  · exact ⟨_, _, qf_t104⟩
  · exact ⟨_, _, qf_t107⟩
  · exact ⟨_, _, qf_t108⟩
  · exact ⟨_, _, qf_t111⟩
  · exact ⟨_, _, qf_t112⟩
  · exact ⟨_, _, qf_t115⟩
  · exact ⟨_, _, qf_t116⟩
  · exact ⟨_, _, qf_t119⟩
  · exact ⟨_, _, qf_t120⟩
theorem qf_b123 (d : Nat) (h1 : 123 ≤ d) (h2 : d ≤ 140) (hv : d % 4 = 0 ∨ d % 4 = 3) : ∃ L N, qf_chk d L N = true := by
  have h : d = 123 ∨ d = 124 ∨ d = 127 ∨ d = 128 ∨ d = 131 ∨ d = 132 ∨ d = 135 ∨ d = 136 ∨ d = 139 ∨ d = 140 := by omega
  rcases h with rfl | rfl | rfl | rfl | rfl | rfl | rfl | rfl | rfl | rfl
  · exact ⟨_, _, qf_t123⟩
  · exact ⟨_, _, qf_t124⟩
  · exact ⟨_, _, qf_t127⟩
  · exact ⟨_, _, qf_t128⟩
  · exact ⟨_, _, qf_t131⟩
  · exact ⟨_, _, qf_t132⟩
  · exact ⟨_, _, qf_t135⟩
  · exact ⟨_, _, qf_t136⟩
  · exact ⟨_, _, qf_t139⟩
  · exact ⟨_, _, qf_t140⟩
theorem qf_b143 (d : Nat) (h1 : 143 ≤ d) (h2 : d ≤ 160) (hv : d % 4 = 0 ∨ d % 4 = 3) : ∃ L N, qf_chk d L N = true := by
  have h : d = 143 ∨ d = 144 ∨ d = 147 ∨ d = 148 ∨ d = 151 ∨ d = 152 ∨ d = 155 ∨ d = 156 ∨ d = 159 ∨ d = 160 := by omega
  rcases h with rfl | rfl | rfl | rfl | rfl | rfl | rfl | rfl | rfl | rfl
  · exact ⟨_, _, qf_t143⟩
  · exact ⟨_, _, qf_t144⟩
  · exact ⟨_, _, qf_t147⟩
  · exact ⟨_, _, qf_t148⟩
  · exact ⟨_, _, qf_t151⟩
  · exact ⟨_, _, qf_t152⟩
  · exact ⟨_, _, qf_t155⟩
  · exact ⟨_, _, qf_t156⟩
  · exact ⟨_, _, qf_t159⟩
  · exact ⟨_, _, qf_t160⟩
theorem qf_b163 (d : Nat) (h1 : 163 ≤ d) (h2 : d ≤ 180) (hv : d % 4 = 0 ∨ d % 4 = 3) : ∃ L N, qf_chk d L N = true := by
  have h : d = 163 ∨ d = 164 ∨ d = 167 ∨ d = 168 ∨ d = 171 ∨ d = 172 ∨ d = 175 ∨ d = 176 ∨ d = 179 ∨ d = 180 := by omega
  rcases h with rfl | rfl | rfl | rfl | rfl | rfl | rfl | rfl | rfl | rfl
  · exact ⟨_, _, qf_t163⟩
  · exact ⟨_, _, qf_t164⟩
  · exact ⟨_, _, qf_t167⟩
  · exact ⟨_, _, qf_t168⟩
  · exact ⟨_, _, qf_t171⟩
  · exact ⟨_, _, qf_t172⟩
  · exact ⟨_, _, qf_t175⟩
  · exact ⟨_, _, qf_t176⟩
  · exact ⟨_, _, qf_t179⟩
  · exact ⟨_, _, qf_t180⟩
theorem qf_b183 (d : Nat) (h1 : 183 ≤ d) (h2 : d ≤ 200) (hv : d % 4 = 0 ∨ d % 4 = 3) : ∃ L N, qf_chk d L N = true := by
  have h : d = 183 ∨ d = 184 ∨ d = 187 ∨ d = 188 ∨ d = 191 ∨ d = 192 ∨ d = 195 ∨ d = 196 ∨ d = 199 ∨ d = 200 := by omega
  rcases h with rfl | rfl | rfl | rfl | rfl | rfl | rfl | rfl | rfl | rfl
  · exact ⟨_, _, qf_t183⟩
  · exact ⟨_, _, qf_t184⟩
  · exact ⟨_, _, qf_t187⟩
  · exact ⟨_, _, qf_t188⟩
  · exact ⟨_, _, qf_t191⟩
  · exact ⟨_, _, qf_t192⟩
  · exact ⟨_, _, qf_t195⟩
  · exact ⟨_, _, qf_t196⟩
  · exact ⟨_, _, qf_t199⟩
  · exact ⟨_, _, qf_t200⟩
