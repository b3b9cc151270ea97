/-! tables, part 0: written by wip/tables.py -/
theorem qf_t3 : qf_chk 3 [(.ofNat 1, .ofNat 1, .ofNat 1)] 0x0 = true := by decide +kernel
theorem qf_t4 : qf_chk 4 [(.ofNat 1, .ofNat 0, .ofNat 1)] 0x0 = true := by decide +kernel
theorem qf_t7 : qf_chk 7 [(.ofNat 1, .ofNat 1, .ofNat 2)] 0x0 = true := by decide +kernel
theorem qf_t8 : qf_chk 8 [(.ofNat 1, .ofNat 0, .ofNat 2)] 0x0 = true := by decide +kernel
theorem qf_t11 : qf_chk 11 [(.ofNat 1, .ofNat 1, .ofNat 3)] 0x0 = true := by decide +kernel
theorem qf_t12 : qf_chk 12 [(.ofNat 1, .ofNat 0, .ofNat 3)] 0x0 = true := by decide +kernel
theorem qf_t15 : qf_chk 15 [(.ofNat 1, .ofNat 1, .ofNat 4), (.ofNat 2, .ofNat 1, .ofNat 2)] 0x420 = true := by decide +kernel
theorem qf_t16 : qf_chk 16 [(.ofNat 1, .ofNat 0, .ofNat 4)] 0x0 = true := by decide +kernel
theorem qf_t19 : qf_chk 19 [(.ofNat 1, .ofNat 1, .ofNat 5)] 0x0 = true := by decide +kernel
theorem qf_t20 : qf_chk 20 [(.ofNat 1, .ofNat 0, .ofNat 5), (.ofNat 2, .ofNat 2, .ofNat 3)] 0x420 = true := by decide +kernel
theorem qf_t23 : qf_chk 23 [(.ofNat 1, .ofNat 1, .ofNat 6), (.ofNat 2, .negSucc 0, .ofNat 3), (.ofNat 2, .ofNat 1, .ofNat 3)] 0x10080208820 = true := by decide +kernel
theorem qf_t24 : qf_chk 24 [(.ofNat 1, .ofNat 0, .ofNat 6), (.ofNat 2, .ofNat 0, .ofNat 3)] 0x420 = true := by decide +kernel
theorem qf_t27 : qf_chk 27 [(.ofNat 1, .ofNat 1, .ofNat 7)] 0x0 = true := by decide +kernel
theorem qf_t28 : qf_chk 28 [(.ofNat 1, .ofNat 0, .ofNat 7)] 0x0 = true := by decide +kernel
theorem qf_t31 : qf_chk 31 [(.ofNat 1, .ofNat 1, .ofNat 8), (.ofNat 2, .negSucc 0, .ofNat 4), (.ofNat 2, .ofNat 1, .ofNat 4)] 0x10080208820 = true := by decide +kernel
theorem qf_t32 : qf_chk 32 [(.ofNat 1, .ofNat 0, .ofNat 8), (.ofNat 3, .ofNat 2, .ofNat 3)] 0x420 = true := by decide +kernel
theorem qf_t35 : qf_chk 35 [(.ofNat 1, .ofNat 1, .ofNat 9), (.ofNat 3, .ofNat 1, .ofNat 3)] 0x420 = true := by decide +kernel
theorem qf_t36 : qf_chk 36 [(.ofNat 1, .ofNat 0, .ofNat 9), (.ofNat 2, .ofNat 2, .ofNat 5)] 0x420 = true := by decide +kernel
theorem qf_t39 : qf_chk 39 [(.ofNat 1, .ofNat 1, .ofNat 10), (.ofNat 2, .negSucc 0, .ofNat 5), (.ofNat 2, .ofNat 1, .ofNat 5), (.ofNat 3, .ofNat 3, .ofNat 4)] 0x44308c021006118820 = true := by decide +kernel
theorem qf_t40 : qf_chk 40 [(.ofNat 1, .ofNat 0, .ofNat 10), (.ofNat 2, .ofNat 0, .ofNat 5)] 0x420 = true := by decide +kernel
theorem qf_t43 : qf_chk 43 [(.ofNat 1, .ofNat 1, .ofNat 11)] 0x0 = true := by decide +kernel
theorem qf_t44 : qf_chk 44 [(.ofNat 1, .ofNat 0, .ofNat 11), (.ofNat 3, .negSucc 1, .ofNat 4), (.ofNat 3, .ofNat 2, .ofNat 4)] 0x10080208820 = true := by decide +kernel
theorem qf_t47 : qf_chk 47 [(.ofNat 1, .ofNat 1, .ofNat 12), (.ofNat 2, .negSucc 0, .ofNat 6), (.ofNat 2, .ofNat 1, .ofNat 6), (.ofNat 3, .negSucc 0, .ofNat 4), (.ofNat 3, .ofNat 1, .ofNat 4)] 0x2004640048218483008620102418820 = true := by decide +kernel
theorem qf_t48 : qf_chk 48 [(.ofNat 1, .ofNat 0, .ofNat 12), (.ofNat 3, .ofNat 0, .ofNat 4)] 0x420 = true := by decide +kernel
theorem qf_t51 : qf_chk 51 [(.ofNat 1, .ofNat 1, .ofNat 13), (.ofNat 3, .ofNat 3, .ofNat 5)] 0x420 = true := by decide +kernel
theorem qf_t52 : qf_chk 52 [(.ofNat 1, .ofNat 0, .ofNat 13), (.ofNat 2, .ofNat 2, .ofNat 7)] 0x420 = true := by decide +kernel
theorem qf_t55 : qf_chk 55 [(.ofNat 1, .ofNat 1, .ofNat 14), (.ofNat 2, .negSucc 0, .ofNat 7), (.ofNat 2, .ofNat 1, .ofNat 7), (.ofNat 4, .ofNat 3, .ofNat 4)] 0x44308c021006118820 = true := by decide +kernel
theorem qf_t56 : qf_chk 56 [(.ofNat 1, .ofNat 0, .ofNat 14), (.ofNat 2, .ofNat 0, .ofNat 7), (.ofNat 3, .negSucc 1, .ofNat 5), (.ofNat 3, .ofNat 2, .ofNat 5)] 0x80430046210c0118820 = true := by decide +kernel
theorem qf_t59 : qf_chk 59 [(.ofNat 1, .ofNat 1, .ofNat 15), (.ofNat 3, .negSucc 0, .ofNat 5), (.ofNat 3, .ofNat 1, .ofNat 5)] 0x10080208820 = true := by decide +kernel
theorem qf_t60 : qf_chk 60 [(.ofNat 1, .ofNat 0, .ofNat 15), (.ofNat 3, .ofNat 0, .ofNat 5)] 0x420 = true := by decide +kernel
theorem qf_t63 : qf_chk 63 [(.ofNat 1, .ofNat 1, .ofNat 16), (.ofNat 2, .negSucc 0, .ofNat 8), (.ofNat 2, .ofNat 1, .ofNat 8), (.ofNat 4, .ofNat 1, .ofNat 4)] 0x44308c021006118820 = true := by decide +kernel
theorem qf_t64 : qf_chk 64 [(.ofNat 1, .ofNat 0, .ofNat 16), (.ofNat 4, .ofNat 4, .ofNat 5)] 0x420 = true := by decide +kernel
theorem qf_t67 : qf_chk 67 [(.ofNat 1, .ofNat 1, .ofNat 17)] 0x0 = true := by decide +kernel
theorem qf_t68 : qf_chk 68 [(.ofNat 1, .ofNat 0, .ofNat 17), (.ofNat 2, .ofNat 2, .ofNat 9), (.ofNat 3, .negSucc 1, .ofNat 6), (.ofNat 3, .ofNat 2, .ofNat 6)] 0x80430046210c0118820 = true := by decide +kernel
theorem qf_t71 : qf_chk 71 [(.ofNat 1, .ofNat 1, .ofNat 18), (.ofNat 2, .negSucc 0, .ofNat 9), (.ofNat 2, .ofNat 1, .ofNat 9), (.ofNat 3, .negSucc 0, .ofNat 6), (.ofNat 3, .ofNat 1, .ofNat 6), (.ofNat 4, .negSucc 2, .ofNat 5), (.ofNat 4, .ofNat 3, .ofNat 5)] 0x4008a11980330482288c100ca4284023106120cc50086229006098a418820 = true := by decide +kernel
theorem qf_t72 : qf_chk 72 [(.ofNat 1, .ofNat 0, .ofNat 18), (.ofNat 2, .ofNat 0, .ofNat 9)] 0x420 = true := by decide +kernel
theorem qf_t75 : qf_chk 75 [(.ofNat 1, .ofNat 1, .ofNat 19), (.ofNat 3, .ofNat 3, .ofNat 7)] 0x420 = true := by decide +kernel
theorem qf_t76 : qf_chk 76 [(.ofNat 1, .ofNat 0, .ofNat 19), (.ofNat 4, .negSucc 1, .ofNat 5), (.ofNat 4, .ofNat 2, .ofNat 5)] 0x10080208820 = true := by decide +kernel
theorem qf_t79 : qf_chk 79 [(.ofNat 1, .ofNat 1, .ofNat 20), (.ofNat 2, .negSucc 0, .ofNat 10), (.ofNat 2, .ofNat 1, .ofNat 10), (.ofNat 4, .negSucc 0, .ofNat 5), (.ofNat 4, .ofNat 1, .ofNat 5)] 0x100c440082418c240084400c2418820 = true := by decide +kernel
theorem qf_t80 : qf_chk 80 [(.ofNat 1, .ofNat 0, .ofNat 20), (.ofNat 3, .negSucc 1, .ofNat 7), (.ofNat 3, .ofNat 2, .ofNat 7), (.ofNat 4, .ofNat 0, .ofNat 5)] 0x44308c021006118820 = true := by decide +kernel
theorem qf_t83 : qf_chk 83 [(.ofNat 1, .ofNat 1, .ofNat 21), (.ofNat 3, .negSucc 0, .ofNat 7), (.ofNat 3, .ofNat 1, .ofNat 7)] 0x10080208820 = true := by decide +kernel
theorem qf_t84 : qf_chk 84 [(.ofNat 1, .ofNat 0, .ofNat 21), (.ofNat 2, .ofNat 2, .ofNat 11), (.ofNat 3, .ofNat 0, .ofNat 7), (.ofNat 5, .ofNat 4, .ofNat 5)] 0x4430806210c0118820 = true := by decide +kernel
theorem qf_t87 : qf_chk 87 [(.ofNat 1, .ofNat 1, .ofNat 22), (.ofNat 2, .negSucc 0, .ofNat 11), (.ofNat 2, .ofNat 1, .ofNat 11), (.ofNat 3, .ofNat 3, .ofNat 8), (.ofNat 4, .negSucc 2, .ofNat 6), (.ofNat 4, .ofNat 3, .ofNat 6)] 0x200411940508c441040520c232900218880284a418820 = true := by decide +kernel
theorem qf_t88 : qf_chk 88 [(.ofNat 1, .ofNat 0, .ofNat 22), (.ofNat 2, .ofNat 0, .ofNat 11)] 0x420 = true := by decide +kernel
theorem qf_t91 : qf_chk 91 [(.ofNat 1, .ofNat 1, .ofNat 23), (.ofNat 5, .ofNat 3, .ofNat 5)] 0x420 = true := by decide +kernel
theorem qf_t92 : qf_chk 92 [(.ofNat 1, .ofNat 0, .ofNat 23), (.ofNat 3, .negSucc 1, .ofNat 8), (.ofNat 3, .ofNat 2, .ofNat 8)] 0x10080208820 = true := by decide +kernel
theorem qf_t95 : qf_chk 95 [(.ofNat 1, .ofNat 1, .ofNat 24), (.ofNat 2, .negSucc 0, .ofNat 12), (.ofNat 2, .ofNat 1, .ofNat 12), (.ofNat 3, .negSucc 0, .ofNat 8), (.ofNat 3, .ofNat 1, .ofNat 8), (.ofNat 4, .negSucc 0, .ofNat 6), (.ofNat 4, .ofNat 1, .ofNat 6), (.ofNat 5, .ofNat 5, .ofNat 6)] 0x14c20906729c0120c46300e31048510466014e40904029cc320c253980218887300a1398a418820 = true := by decide +kernel
theorem qf_t96 : qf_chk 96 [(.ofNat 1, .ofNat 0, .ofNat 24), (.ofNat 3, .ofNat 0, .ofNat 8), (.ofNat 4, .ofNat 4, .ofNat 7), (.ofNat 5, .ofNat 2, .ofNat 5)] 0x4430806210c0118820 = true := by decide +kernel
theorem qf_t99 : qf_chk 99 [(.ofNat 1, .ofNat 1, .ofNat 25), (.ofNat 5, .ofNat 1, .ofNat 5)] 0x420 = true := by decide +kernel
theorem qf_t100 : qf_chk 100 [(.ofNat 1, .ofNat 0, .ofNat 25), (.ofNat 2, .ofNat 2, .ofNat 13)] 0x420 = true := by decide +kernel
theorem qf_b3 (d : Nat) (h1 : 3 ≤ d) (h2 : d ≤ 20) (hv : d % 4 = 0 ∨ d % 4 = 3) : ∃ L N, qf_chk d L N = true := by
  have h : d = 3 ∨ d = 4 ∨ d = 7 ∨ d = 8 ∨ d = 11 ∨ d = 12 ∨ d = 15 ∨ d = 16 ∨ d = 19 ∨ d = 20 := by omega
  rcases h with rfl | rfl | rfl | rfl | rfl | rfl | rfl | rfl | rfl | rfl
  · exact ⟨_, _, qf_t3⟩
  · exact ⟨_, _, qf_t4⟩
  · exact ⟨_, _, qf_t7⟩
  · exact ⟨_, _, qf_t8⟩
  · exact ⟨_, _, qf_t11⟩
  · exact ⟨_, _, qf_t12⟩
  · exact ⟨_, _, qf_t15⟩
  · exact ⟨_, _, qf_t16⟩
  · exact ⟨_, _, qf_t19⟩
  · exact ⟨_, _, qf_t20⟩
theorem qf_b23 (d : Nat) (h1 : 23 ≤ d) (h2 : d ≤ 40) (hv : d % 4 = 0 ∨ d % 4 = 3) : ∃ L N, qf_chk d L N = true := by
  have h : d = 23 ∨ d = 24 ∨ d = 27 ∨ d = 28 ∨ d = 31 ∨ d = 32 ∨ d = 35 ∨ d = 36 ∨ d = 39 ∨ d = 40 := by omega
  rcases h with rfl | rfl | rfl | rfl | rfl | rfl | rfl | rfl | rfl | rfl
  · exact ⟨_, _, qf_t23⟩
  · exact ⟨_, _, qf_t24⟩
  · exact ⟨_, _, qf_t27⟩
  · exact ⟨_, _, qf_t28⟩
  · exact ⟨_, _, qf_t31⟩
  · exact ⟨_, _, qf_t32⟩
  · exact ⟨_, _, qf_t35⟩
  · exact ⟨_, _, qf_t36⟩
  · exact ⟨_, _, qf_t39⟩
  · exact ⟨_, _, qf_t40⟩
theorem qf_b43 (d : Nat) (h1 : 43 ≤ d) (h2 : d ≤ 60) (hv : d % 4 = 0 ∨ d % 4 = 3) : ∃ L N, qf_chk d L N = true := by
  have h : d = 43 ∨ d = 44 ∨ d = 47 ∨ d = 48 ∨ d = 51 ∨ d = 52 ∨ d = 55 ∨ d = 56 ∨ d = 59 ∨ d = 60 := by omega
  rcases h with rfl | rfl | rfl | rfl | rfl | rfl | rfl | rfl | rfl | rfl
  · exact ⟨_, _, qf_t43⟩
  · exact ⟨_, _, qf_t44⟩
  · exact ⟨_, _, qf_t47⟩
  · exact ⟨_, _, qf_t48⟩
  · exact ⟨_, _, qf_t51⟩
  · exact ⟨_, _, qf_t52⟩
  · exact ⟨_, _, qf_t55⟩
  · exact ⟨_, _, qf_t56⟩
  · exact ⟨_, _, qf_t59⟩
  · exact ⟨_, _, qf_t60⟩
theorem qf_b63 (d : Nat) (h1 : 63 ≤ d) (h2 : d ≤ 80) (hv : d % 4 = 0 ∨ d % 4 = 3) : ∃ L N, qf_chk d L N = true := by
  have h : d = 63 ∨ d = 64 ∨ d = 67 ∨ d = 68 ∨ d = 71 ∨ d = 72 ∨ d = 75 ∨ d = 76 ∨ d = 79 ∨ d = 80 := by omega
  rcases h with rfl | rfl | rfl | rfl | rfl | rfl | rfl | rfl | rfl | rfl
  · exact ⟨_, _, qf_t63⟩
  · exact ⟨_, _, qf_t64⟩
  · exact ⟨_, _, qf_t67⟩
  · exact ⟨_, _, qf_t68⟩
  · exact ⟨_, _, qf_t71⟩
  · exact ⟨_, _, qf_t72⟩
  · exact ⟨_, _, qf_t75⟩
  · exact ⟨_, _, qf_t76⟩
  · exact ⟨_, _, qf_t79⟩
  · exact ⟨_, _, qf_t80⟩
theorem qf_b83 (d : Nat) (h1 : 83 ≤ d) (h2 : d ≤ 100) (hv : d % 4 = 0 ∨ d % 4 = 3) : ∃ L N, qf_chk d L N = true := by
  have h : d = 83 ∨ d = 84 ∨ d = 87 ∨ d = 88 ∨ d = 91 ∨ d = 92 ∨ d = 95 ∨ d = 96 ∨ d = 99 ∨ d = 100 := by omega
  rcases h with rfl | rfl | rfl | rfl | rfl | rfl | rfl | rfl | rfl | rfl
  · exact ⟨_, _, qf_t83⟩
  · exact ⟨_, _, qf_t84⟩
  · exact ⟨_, _, qf_t87⟩
  · exact ⟨_, _, qf_t88⟩
  · exact ⟨_, _, qf_t91⟩
  · exact ⟨_, _, qf_t92⟩
  · exact ⟨_, _, qf_t95⟩
  · exact ⟨_, _, qf_t96⟩
  · exact ⟨_, _, qf_t99⟩
  · exact ⟨_, _, qf_t100⟩
