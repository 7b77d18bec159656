/-! what share, sum, lent, waits and bound answer, and when they throw -/
def shOk (S : sSt) (bb sd pp : Int32) : Bool := hbd S bb && (sdOk sd && h6 pp)
def shV (S : sSt) (bb sd pp : Int32) : Int64 := S.2 (14 + (bb.toNatClampNeg * 2 + sd.toNatClampNeg)) pp.toNatClampNeg
def suW (wh : Int32) : Bool := decide (wh = nI 0) || (decide (wh = nI 1) || (decide (wh = nI 2) || (decide (wh = nI 3) || (decide (wh = nI 4) || (decide (wh = nI 5) || (decide (wh = nI 6) || (decide (wh = nI 7) || decide (wh = nI 8))))))))
def suOk (S : sSt) (bb wh : Int32) : Bool := hbd S bb && suW wh
def suF (S : sSt) (nr b : Nat) (wh : Int32) : Int64 := if wh = nI 0 then S.2 11 b else if wh = nI 1 then S.2 10 b else if wh = nI 2 then S.2 12 b else if wh = nI 3 then shT S (b * 2 + 0) true 6 else if wh = nI 4 then shT S (b * 2 + 1) true 6 else if wh = nI 5 then hbr S b 0 false nr else if wh = nI 6 then hbr S b 1 false nr else if wh = nI 7 then shT S (b * 2 + 0) false 6 + hbr S b 0 true nr else shT S (b * 2 + 1) false 6 + hbr S b 1 true nr
def suV (S : sSt) (nr : Nat) (bb wh : Int32) : Int64 := suF S nr bb.toNatClampNeg wh
def waOk (S : sSt) (pp kk : Int32) : Bool := h6 pp && (!decide (kk < 0) && decide (kk < S.1 34 pp.toNatClampNeg))
def waV (S : sSt) (pp kk : Int32) : Int64 := S.2 (43 + pp.toNatClampNeg) kk.toNatClampNeg
theorem waOk_n {k : Nat} {kk : Int32} (hk : k ≤ 8) (h0 : ¬ kk < 0) (h1 : kk < nI k) : ∃ j, j < k ∧ kk = nI j := by
  rcases pk_ix kk (n := k) (by omega) with h | h | h
  · exact absurd h h0
  · exact absurd h1 (Int32.not_lt.mpr h)
  · exact h
theorem dX5_share_0 : decode cX5_share 0 = .ok (.aload_n 0, 1) := by decide +kernel
theorem dX5_share_1 : decode cX5_share 1 = .ok (.getfield 19, 3) := by decide +kernel
theorem dX5_share_4 : decode cX5_share 4 = .ok (.iload_n 1, 1) := by decide +kernel
theorem dX5_share_5 : decode cX5_share 5 = .ok (.invokevirtual 105, 3) := by decide +kernel
theorem dX5_share_8 : decode cX5_share 8 = .ok (.ifCond .eq 17, 3) := by decide +kernel
theorem dX5_share_11 : decode cX5_share 11 = .ok (.iload_n 2, 1) := by decide +kernel
theorem dX5_share_12 : decode cX5_share 12 = .ok (.invokestatic 188, 3) := by decide +kernel
theorem dX5_share_15 : decode cX5_share 15 = .ok (.ifCond .eq 10, 3) := by decide +kernel
theorem dX5_share_18 : decode cX5_share 18 = .ok (.iload_n 3, 1) := by decide +kernel
theorem dX5_share_19 : decode cX5_share 19 = .ok (.invokestatic 183, 3) := by decide +kernel
theorem dX5_share_22 : decode cX5_share 22 = .ok (.ifCond .ne 13, 3) := by decide +kernel
theorem dX5_share_25 : decode cX5_share 25 = .ok (.new 191, 3) := by decide +kernel
theorem dX5_share_28 : decode cX5_share 28 = .ok (.dup, 1) := by decide +kernel
theorem dX5_share_29 : decode cX5_share 29 = .ok (.ldc 193, 2) := by decide +kernel
theorem dX5_share_31 : decode cX5_share 31 = .ok (.invokespecial 195, 3) := by decide +kernel
theorem dX5_share_34 : decode cX5_share 34 = .ok (.athrow, 1) := by decide +kernel
theorem dX5_share_35 : decode cX5_share 35 = .ok (.aload_n 0, 1) := by decide +kernel
theorem dX5_share_36 : decode cX5_share 36 = .ok (.getfield 19, 3) := by decide +kernel
theorem dX5_share_39 : decode cX5_share 39 = .ok (.iload_n 1, 1) := by decide +kernel
theorem dX5_share_40 : decode cX5_share 40 = .ok (.iload_n 2, 1) := by decide +kernel
theorem dX5_share_41 : decode cX5_share 41 = .ok (.iload_n 3, 1) := by decide +kernel
theorem dX5_share_42 : decode cX5_share 42 = .ok (.invokevirtual 129, 3) := by decide +kernel
theorem dX5_share_45 : decode cX5_share 45 = .ok (.lreturn, 1) := by decide +kernel

theorem dX5_sum_0 : decode cX5_sum 0 = .ok (.aload_n 0, 1) := by decide +kernel
theorem dX5_sum_1 : decode cX5_sum 1 = .ok (.getfield 19, 3) := by decide +kernel
theorem dX5_sum_4 : decode cX5_sum 4 = .ok (.iload_n 1, 1) := by decide +kernel
theorem dX5_sum_5 : decode cX5_sum 5 = .ok (.invokevirtual 105, 3) := by decide +kernel
theorem dX5_sum_8 : decode cX5_sum 8 = .ok (.ifCond .ne 13, 3) := by decide +kernel
theorem dX5_sum_11 : decode cX5_sum 11 = .ok (.new 191, 3) := by decide +kernel
theorem dX5_sum_14 : decode cX5_sum 14 = .ok (.dup, 1) := by decide +kernel
theorem dX5_sum_15 : decode cX5_sum 15 = .ok (.ldc 196, 2) := by decide +kernel
theorem dX5_sum_17 : decode cX5_sum 17 = .ok (.invokespecial 195, 3) := by decide +kernel
theorem dX5_sum_20 : decode cX5_sum 20 = .ok (.athrow, 1) := by decide +kernel
theorem dX5_sum_21 : decode cX5_sum 21 = .ok (.iload_n 2, 1) := by decide +kernel
theorem dX5_sum_22 : decode cX5_sum 22 = .ok (.tableswitch 144 0 8 #[50, 60, 70, 80, 88, 96, 104, 112, 128], 50) := by decide +kernel
theorem dX5_sum_72 : decode cX5_sum 72 = .ok (.aload_n 0, 1) := by decide +kernel
theorem dX5_sum_73 : decode cX5_sum 73 = .ok (.getfield 19, 3) := by decide +kernel
theorem dX5_sum_76 : decode cX5_sum 76 = .ok (.getfield 198, 3) := by decide +kernel
theorem dX5_sum_79 : decode cX5_sum 79 = .ok (.iload_n 1, 1) := by decide +kernel
theorem dX5_sum_80 : decode cX5_sum 80 = .ok (.laload, 1) := by decide +kernel
theorem dX5_sum_81 : decode cX5_sum 81 = .ok (.lreturn, 1) := by decide +kernel
theorem dX5_sum_82 : decode cX5_sum 82 = .ok (.aload_n 0, 1) := by decide +kernel
theorem dX5_sum_83 : decode cX5_sum 83 = .ok (.getfield 19, 3) := by decide +kernel
theorem dX5_sum_86 : decode cX5_sum 86 = .ok (.getfield 201, 3) := by decide +kernel
theorem dX5_sum_89 : decode cX5_sum 89 = .ok (.iload_n 1, 1) := by decide +kernel
theorem dX5_sum_90 : decode cX5_sum 90 = .ok (.laload, 1) := by decide +kernel
theorem dX5_sum_91 : decode cX5_sum 91 = .ok (.lreturn, 1) := by decide +kernel
theorem dX5_sum_92 : decode cX5_sum 92 = .ok (.aload_n 0, 1) := by decide +kernel
theorem dX5_sum_93 : decode cX5_sum 93 = .ok (.getfield 19, 3) := by decide +kernel
theorem dX5_sum_96 : decode cX5_sum 96 = .ok (.getfield 204, 3) := by decide +kernel
theorem dX5_sum_99 : decode cX5_sum 99 = .ok (.iload_n 1, 1) := by decide +kernel
theorem dX5_sum_100 : decode cX5_sum 100 = .ok (.laload, 1) := by decide +kernel
theorem dX5_sum_101 : decode cX5_sum 101 = .ok (.lreturn, 1) := by decide +kernel
theorem dX5_sum_102 : decode cX5_sum 102 = .ok (.aload_n 0, 1) := by decide +kernel
theorem dX5_sum_103 : decode cX5_sum 103 = .ok (.iload_n 1, 1) := by decide +kernel
theorem dX5_sum_104 : decode cX5_sum 104 = .ok (.iconst 0, 1) := by decide +kernel
theorem dX5_sum_105 : decode cX5_sum 105 = .ok (.iconst 1, 1) := by decide +kernel
theorem dX5_sum_106 : decode cX5_sum 106 = .ok (.invokevirtual 207, 3) := by decide +kernel
theorem dX5_sum_109 : decode cX5_sum 109 = .ok (.lreturn, 1) := by decide +kernel
theorem dX5_sum_110 : decode cX5_sum 110 = .ok (.aload_n 0, 1) := by decide +kernel
theorem dX5_sum_111 : decode cX5_sum 111 = .ok (.iload_n 1, 1) := by decide +kernel
theorem dX5_sum_112 : decode cX5_sum 112 = .ok (.iconst 1, 1) := by decide +kernel
theorem dX5_sum_113 : decode cX5_sum 113 = .ok (.iconst 1, 1) := by decide +kernel
theorem dX5_sum_114 : decode cX5_sum 114 = .ok (.invokevirtual 207, 3) := by decide +kernel
theorem dX5_sum_117 : decode cX5_sum 117 = .ok (.lreturn, 1) := by decide +kernel
theorem dX5_sum_118 : decode cX5_sum 118 = .ok (.aload_n 0, 1) := by decide +kernel
theorem dX5_sum_119 : decode cX5_sum 119 = .ok (.iload_n 1, 1) := by decide +kernel
theorem dX5_sum_120 : decode cX5_sum 120 = .ok (.iconst 0, 1) := by decide +kernel
theorem dX5_sum_121 : decode cX5_sum 121 = .ok (.iconst 0, 1) := by decide +kernel
theorem dX5_sum_122 : decode cX5_sum 122 = .ok (.invokevirtual 211, 3) := by decide +kernel
theorem dX5_sum_125 : decode cX5_sum 125 = .ok (.lreturn, 1) := by decide +kernel
theorem dX5_sum_126 : decode cX5_sum 126 = .ok (.aload_n 0, 1) := by decide +kernel
theorem dX5_sum_127 : decode cX5_sum 127 = .ok (.iload_n 1, 1) := by decide +kernel
theorem dX5_sum_128 : decode cX5_sum 128 = .ok (.iconst 1, 1) := by decide +kernel
theorem dX5_sum_129 : decode cX5_sum 129 = .ok (.iconst 0, 1) := by decide +kernel
theorem dX5_sum_130 : decode cX5_sum 130 = .ok (.invokevirtual 211, 3) := by decide +kernel
theorem dX5_sum_133 : decode cX5_sum 133 = .ok (.lreturn, 1) := by decide +kernel
theorem dX5_sum_134 : decode cX5_sum 134 = .ok (.aload_n 0, 1) := by decide +kernel
theorem dX5_sum_135 : decode cX5_sum 135 = .ok (.iload_n 1, 1) := by decide +kernel
theorem dX5_sum_136 : decode cX5_sum 136 = .ok (.iconst 0, 1) := by decide +kernel
theorem dX5_sum_137 : decode cX5_sum 137 = .ok (.iconst 0, 1) := by decide +kernel
theorem dX5_sum_138 : decode cX5_sum 138 = .ok (.invokevirtual 207, 3) := by decide +kernel
theorem dX5_sum_141 : decode cX5_sum 141 = .ok (.aload_n 0, 1) := by decide +kernel
theorem dX5_sum_142 : decode cX5_sum 142 = .ok (.iload_n 1, 1) := by decide +kernel
theorem dX5_sum_143 : decode cX5_sum 143 = .ok (.iconst 0, 1) := by decide +kernel
theorem dX5_sum_144 : decode cX5_sum 144 = .ok (.iconst 1, 1) := by decide +kernel
theorem dX5_sum_145 : decode cX5_sum 145 = .ok (.invokevirtual 211, 3) := by decide +kernel
theorem dX5_sum_148 : decode cX5_sum 148 = .ok (.ladd, 1) := by decide +kernel
theorem dX5_sum_149 : decode cX5_sum 149 = .ok (.lreturn, 1) := by decide +kernel
theorem dX5_sum_150 : decode cX5_sum 150 = .ok (.aload_n 0, 1) := by decide +kernel
theorem dX5_sum_151 : decode cX5_sum 151 = .ok (.iload_n 1, 1) := by decide +kernel
theorem dX5_sum_152 : decode cX5_sum 152 = .ok (.iconst 1, 1) := by decide +kernel
theorem dX5_sum_153 : decode cX5_sum 153 = .ok (.iconst 0, 1) := by decide +kernel
theorem dX5_sum_154 : decode cX5_sum 154 = .ok (.invokevirtual 207, 3) := by decide +kernel
theorem dX5_sum_157 : decode cX5_sum 157 = .ok (.aload_n 0, 1) := by decide +kernel
theorem dX5_sum_158 : decode cX5_sum 158 = .ok (.iload_n 1, 1) := by decide +kernel
theorem dX5_sum_159 : decode cX5_sum 159 = .ok (.iconst 1, 1) := by decide +kernel
theorem dX5_sum_160 : decode cX5_sum 160 = .ok (.iconst 1, 1) := by decide +kernel
theorem dX5_sum_161 : decode cX5_sum 161 = .ok (.invokevirtual 211, 3) := by decide +kernel
theorem dX5_sum_164 : decode cX5_sum 164 = .ok (.ladd, 1) := by decide +kernel
theorem dX5_sum_165 : decode cX5_sum 165 = .ok (.lreturn, 1) := by decide +kernel
theorem dX5_sum_166 : decode cX5_sum 166 = .ok (.new 191, 3) := by decide +kernel
theorem dX5_sum_169 : decode cX5_sum 169 = .ok (.dup, 1) := by decide +kernel
theorem dX5_sum_170 : decode cX5_sum 170 = .ok (.ldc 214, 2) := by decide +kernel
theorem dX5_sum_172 : decode cX5_sum 172 = .ok (.invokespecial 195, 3) := by decide +kernel
theorem dX5_sum_175 : decode cX5_sum 175 = .ok (.athrow, 1) := by decide +kernel

theorem dX5_lent_0 : decode cX5_lent 0 = .ok (.aload_n 0, 1) := by decide +kernel
theorem dX5_lent_1 : decode cX5_lent 1 = .ok (.getfield 26, 3) := by decide +kernel
theorem dX5_lent_4 : decode cX5_lent 4 = .ok (.iload_n 1, 1) := by decide +kernel
theorem dX5_lent_5 : decode cX5_lent 5 = .ok (.invokevirtual 147, 3) := by decide +kernel
theorem dX5_lent_8 : decode cX5_lent 8 = .ok (.ifCond .ne 13, 3) := by decide +kernel
theorem dX5_lent_11 : decode cX5_lent 11 = .ok (.new 191, 3) := by decide +kernel
theorem dX5_lent_14 : decode cX5_lent 14 = .ok (.dup, 1) := by decide +kernel
theorem dX5_lent_15 : decode cX5_lent 15 = .ok (.ldc 219, 2) := by decide +kernel
theorem dX5_lent_17 : decode cX5_lent 17 = .ok (.invokespecial 195, 3) := by decide +kernel
theorem dX5_lent_20 : decode cX5_lent 20 = .ok (.athrow, 1) := by decide +kernel
theorem dX5_lent_21 : decode cX5_lent 21 = .ok (.aload_n 0, 1) := by decide +kernel
theorem dX5_lent_22 : decode cX5_lent 22 = .ok (.getfield 26, 3) := by decide +kernel
theorem dX5_lent_25 : decode cX5_lent 25 = .ok (.getfield 221, 3) := by decide +kernel
theorem dX5_lent_28 : decode cX5_lent 28 = .ok (.iload_n 1, 1) := by decide +kernel
theorem dX5_lent_29 : decode cX5_lent 29 = .ok (.laload, 1) := by decide +kernel
theorem dX5_lent_30 : decode cX5_lent 30 = .ok (.lreturn, 1) := by decide +kernel

theorem dX5_waits_0 : decode cX5_waits 0 = .ok (.iload_n 1, 1) := by decide +kernel
theorem dX5_waits_1 : decode cX5_waits 1 = .ok (.invokestatic 183, 3) := by decide +kernel
theorem dX5_waits_4 : decode cX5_waits 4 = .ok (.ifCond .eq 20, 3) := by decide +kernel
theorem dX5_waits_7 : decode cX5_waits 7 = .ok (.iload_n 2, 1) := by decide +kernel
theorem dX5_waits_8 : decode cX5_waits 8 = .ok (.ifCond .lt 16, 3) := by decide +kernel
theorem dX5_waits_11 : decode cX5_waits 11 = .ok (.iload_n 2, 1) := by decide +kernel
theorem dX5_waits_12 : decode cX5_waits 12 = .ok (.aload_n 0, 1) := by decide +kernel
theorem dX5_waits_13 : decode cX5_waits 13 = .ok (.getfield 33, 3) := by decide +kernel
theorem dX5_waits_16 : decode cX5_waits 16 = .ok (.getfield 224, 3) := by decide +kernel
theorem dX5_waits_19 : decode cX5_waits 19 = .ok (.iload_n 1, 1) := by decide +kernel
theorem dX5_waits_20 : decode cX5_waits 20 = .ok (.iaload, 1) := by decide +kernel
theorem dX5_waits_21 : decode cX5_waits 21 = .ok (.if_icmp .lt 13, 3) := by decide +kernel
theorem dX5_waits_24 : decode cX5_waits 24 = .ok (.new 191, 3) := by decide +kernel
theorem dX5_waits_27 : decode cX5_waits 27 = .ok (.dup, 1) := by decide +kernel
theorem dX5_waits_28 : decode cX5_waits 28 = .ok (.ldc 227, 2) := by decide +kernel
theorem dX5_waits_30 : decode cX5_waits 30 = .ok (.invokespecial 195, 3) := by decide +kernel
theorem dX5_waits_33 : decode cX5_waits 33 = .ok (.athrow, 1) := by decide +kernel
theorem dX5_waits_34 : decode cX5_waits 34 = .ok (.aload_n 0, 1) := by decide +kernel
theorem dX5_waits_35 : decode cX5_waits 35 = .ok (.getfield 33, 3) := by decide +kernel
theorem dX5_waits_38 : decode cX5_waits 38 = .ok (.getfield 229, 3) := by decide +kernel
theorem dX5_waits_41 : decode cX5_waits 41 = .ok (.iload_n 1, 1) := by decide +kernel
theorem dX5_waits_42 : decode cX5_waits 42 = .ok (.aaload, 1) := by decide +kernel
theorem dX5_waits_43 : decode cX5_waits 43 = .ok (.iload_n 2, 1) := by decide +kernel
theorem dX5_waits_44 : decode cX5_waits 44 = .ok (.laload, 1) := by decide +kernel
theorem dX5_waits_45 : decode cX5_waits 45 = .ok (.lreturn, 1) := by decide +kernel

theorem dX5_bound_0 : decode cX5_bound 0 = .ok (.lload_n 1, 1) := by decide +kernel
theorem dX5_bound_1 : decode cX5_bound 1 = .ok (.lload_n 3, 1) := by decide +kernel
theorem dX5_bound_2 : decode cX5_bound 2 = .ok (.lload 5, 2) := by decide +kernel
theorem dX5_bound_4 : decode cX5_bound 4 = .ok (.invokestatic 54, 3) := by decide +kernel
theorem dX5_bound_7 : decode cX5_bound 7 = .ok (.ifCond .ne 13, 3) := by decide +kernel
theorem dX5_bound_10 : decode cX5_bound 10 = .ok (.new 58, 3) := by decide +kernel
theorem dX5_bound_13 : decode cX5_bound 13 = .ok (.dup, 1) := by decide +kernel
theorem dX5_bound_14 : decode cX5_bound 14 = .ok (.ldc 60, 2) := by decide +kernel
theorem dX5_bound_16 : decode cX5_bound 16 = .ok (.invokespecial 62, 3) := by decide +kernel
theorem dX5_bound_19 : decode cX5_bound 19 = .ok (.athrow, 1) := by decide +kernel
theorem dX5_bound_20 : decode cX5_bound 20 = .ok (.aload_n 0, 1) := by decide +kernel
theorem dX5_bound_21 : decode cX5_bound 21 = .ok (.invokevirtual 65, 3) := by decide +kernel
theorem dX5_bound_24 : decode cX5_bound 24 = .ok (.aload_n 0, 1) := by decide +kernel
theorem dX5_bound_25 : decode cX5_bound 25 = .ok (.getfield 40, 3) := by decide +kernel
theorem dX5_bound_28 : decode cX5_bound 28 = .ok (.invokevirtual 68, 3) := by decide +kernel
theorem dX5_bound_31 : decode cX5_bound 31 = .ok (.lconst 0, 1) := by decide +kernel
theorem dX5_bound_32 : decode cX5_bound 32 = .ok (.lcmp, 1) := by decide +kernel
theorem dX5_bound_33 : decode cX5_bound 33 = .ok (.ifCond .ne 13, 3) := by decide +kernel
theorem dX5_bound_36 : decode cX5_bound 36 = .ok (.new 72, 3) := by decide +kernel
theorem dX5_bound_39 : decode cX5_bound 39 = .ok (.dup, 1) := by decide +kernel
theorem dX5_bound_40 : decode cX5_bound 40 = .ok (.ldc 74, 2) := by decide +kernel
theorem dX5_bound_42 : decode cX5_bound 42 = .ok (.invokespecial 76, 3) := by decide +kernel
theorem dX5_bound_45 : decode cX5_bound 45 = .ok (.athrow, 1) := by decide +kernel
theorem dX5_bound_46 : decode cX5_bound 46 = .ok (.aload_n 0, 1) := by decide +kernel
theorem dX5_bound_47 : decode cX5_bound 47 = .ok (.getfield 19, 3) := by decide +kernel
theorem dX5_bound_50 : decode cX5_bound 50 = .ok (.getfield 77, 3) := by decide +kernel
theorem dX5_bound_53 : decode cX5_bound 53 = .ok (.bipush 6, 2) := by decide +kernel
theorem dX5_bound_55 : decode cX5_bound 55 = .ok (.if_icmp .lt 13, 3) := by decide +kernel
theorem dX5_bound_58 : decode cX5_bound 58 = .ok (.new 81, 3) := by decide +kernel
theorem dX5_bound_61 : decode cX5_bound 61 = .ok (.dup, 1) := by decide +kernel
theorem dX5_bound_62 : decode cX5_bound 62 = .ok (.ldc 83, 2) := by decide +kernel
theorem dX5_bound_64 : decode cX5_bound 64 = .ok (.invokespecial 85, 3) := by decide +kernel
theorem dX5_bound_67 : decode cX5_bound 67 = .ok (.athrow, 1) := by decide +kernel
theorem dX5_bound_68 : decode cX5_bound 68 = .ok (.aload_n 0, 1) := by decide +kernel
theorem dX5_bound_69 : decode cX5_bound 69 = .ok (.getfield 19, 3) := by decide +kernel
theorem dX5_bound_72 : decode cX5_bound 72 = .ok (.lload_n 1, 1) := by decide +kernel
theorem dX5_bound_73 : decode cX5_bound 73 = .ok (.lload_n 3, 1) := by decide +kernel
theorem dX5_bound_74 : decode cX5_bound 74 = .ok (.lload 5, 2) := by decide +kernel
theorem dX5_bound_76 : decode cX5_bound 76 = .ok (.invokevirtual 86, 3) := by decide +kernel
theorem dX5_bound_79 : decode cX5_bound 79 = .ok (.istore 7, 2) := by decide +kernel
theorem dX5_bound_81 : decode cX5_bound 81 = .ok (.aload_n 0, 1) := by decide +kernel
theorem dX5_bound_82 : decode cX5_bound 82 = .ok (.getfield 40, 3) := by decide +kernel
theorem dX5_bound_85 : decode cX5_bound 85 = .ok (.lload_n 3, 1) := by decide +kernel
theorem dX5_bound_86 : decode cX5_bound 86 = .ok (.lload_n 1, 1) := by decide +kernel
theorem dX5_bound_87 : decode cX5_bound 87 = .ok (.lsub, 1) := by decide +kernel
theorem dX5_bound_88 : decode cX5_bound 88 = .ok (.invokevirtual 90, 3) := by decide +kernel
theorem dX5_bound_91 : decode cX5_bound 91 = .ok (.aload_n 0, 1) := by decide +kernel
theorem dX5_bound_92 : decode cX5_bound 92 = .ok (.getfield 19, 3) := by decide +kernel
theorem dX5_bound_95 : decode cX5_bound 95 = .ok (.iload 7, 2) := by decide +kernel
theorem dX5_bound_97 : decode cX5_bound 97 = .ok (.iconst 0, 1) := by decide +kernel
theorem dX5_bound_98 : decode cX5_bound 98 = .ok (.aload_n 0, 1) := by decide +kernel
theorem dX5_bound_99 : decode cX5_bound 99 = .ok (.getfield 40, 3) := by decide +kernel
theorem dX5_bound_102 : decode cX5_bound 102 = .ok (.getfield 94, 3) := by decide +kernel
theorem dX5_bound_105 : decode cX5_bound 105 = .ok (.invokevirtual 97, 3) := by decide +kernel
theorem dX5_bound_108 : decode cX5_bound 108 = .ok (.aload_n 0, 1) := by decide +kernel
theorem dX5_bound_109 : decode cX5_bound 109 = .ok (.getfield 40, 3) := by decide +kernel
theorem dX5_bound_112 : decode cX5_bound 112 = .ok (.lload 5, 2) := by decide +kernel
theorem dX5_bound_114 : decode cX5_bound 114 = .ok (.lload_n 3, 1) := by decide +kernel
theorem dX5_bound_115 : decode cX5_bound 115 = .ok (.lsub, 1) := by decide +kernel
theorem dX5_bound_116 : decode cX5_bound 116 = .ok (.invokevirtual 90, 3) := by decide +kernel
theorem dX5_bound_119 : decode cX5_bound 119 = .ok (.aload_n 0, 1) := by decide +kernel
theorem dX5_bound_120 : decode cX5_bound 120 = .ok (.getfield 19, 3) := by decide +kernel
theorem dX5_bound_123 : decode cX5_bound 123 = .ok (.iload 7, 2) := by decide +kernel
theorem dX5_bound_125 : decode cX5_bound 125 = .ok (.iconst 1, 1) := by decide +kernel
theorem dX5_bound_126 : decode cX5_bound 126 = .ok (.aload_n 0, 1) := by decide +kernel
theorem dX5_bound_127 : decode cX5_bound 127 = .ok (.getfield 40, 3) := by decide +kernel
theorem dX5_bound_130 : decode cX5_bound 130 = .ok (.getfield 94, 3) := by decide +kernel
theorem dX5_bound_133 : decode cX5_bound 133 = .ok (.invokevirtual 97, 3) := by decide +kernel
theorem dX5_bound_136 : decode cX5_bound 136 = .ok (.iload 7, 2) := by decide +kernel
theorem dX5_bound_138 : decode cX5_bound 138 = .ok (.ireturn, 1) := by decide +kernel

set_option maxHeartbeats 4000000 in
set_option maxRecDepth 100000 in
theorem kX5_share (l : Launch) (htr : l.stackTraces = false) (dC : Nat → ClassId) (dI : Nat → Nat → Nat) (ca : Nat → ClassId) (ad : Nat → Nat) (S : sSt) (bb : Int32) (sd : Int32) (pp : Int32) (nb : Nat) (nr : Nat) (hb6 : nb ≤ 6) (hr2 : nr ≤ 200) (hri : RI nb nr S) : tx_M l yX5_share (Cond.code yX5_share cX5_share 4 (some .long) :: wa_T) ({ frames := 6, cells := 1, slots := 6, locals := 90 } : Room) (dC, dI) vwCl (tyl ca) (wc ca ad) S [.ref (ad 0), .int bb, .int sd, .int pp] (fun A => va_Ql (fun r S2 => shOk S bb sd pp = true ∧ r = shV S bb sd pp ∧ S2 = S) (ct_B (dC, dI) vwCl (tyl ca) (wc ca ad) A) A) (fun E S2 => E = "java/util/NoSuchElementException" ∧ shOk S bb sd pp = false ∧ S2 = S) := by
  refine tx_of (by decide) (Nat.le_of_ble_eq_true rfl) ?_
  intro p e s m below meth c A ls hx hb hr hml hts hown hlocks hK hA hw hl hout hZ hst
  have hl : lv_has ls 4 [(0, .ref (ad 0)), (1, .int bb), (2, .int sd), (3, .int pp)] := hl
  refine lv_aload_n hx hb dX5_share_0 rfl (lv_at hl 0 rfl) ?_
  refine wo_get hx hb hts inX5 hown hK hw 0 rfl rfl 1 (by decide) (hts _ wd_167) (fun _ h9 => h9) rfl dX5_share_1 ?_
  refine lv_iload_n hx hb dX5_share_4 rfl (lv_at hl 1 rfl) ?_
  refine wo_vI (As := [.int bb]) (rest := []) (kX0_has l dC dI ca ad S bb) ⟨hx, hb, hml, hown, hts⟩ (cwV 1 hts (wa_gV wd_208 wd_209 wd_210 wd_4 wd_211) rfl rfl rfl (by decide +kernel) ⟨Nat.le_of_ble_eq_true rfl, Nat.le_of_ble_eq_true rfl⟩) hK hw hA 2 rfl rfl rfl rfl hl.1 rfl (Nat.le_of_ble_eq_true rfl) dX5_share_5 ⟨Nat.zero_le _, Nat.zero_le _⟩ (fun r_1 S_1 H locs hp_1 hw => ?_)
  have e9 := hp_1.1.symm
  subst e9
  have e9 := hp_1.2.symm
  subst e9
  refine lv_if_eq (tgt := 25) hx hb dX5_share_8 (by decide) (fun c_2 => ?_) (fun c_2 => ?_)
  · skip
    have c_2 : hbd S bb = false := nb_0 c_2
    obtain ⟨sa, hsa⟩ := hZ.2.2.2.1 (193, "no such share") (by simp [ex_S])
    exact tx_throw (S := S) (names := ex_up) hx hb htr ex_rx hown (ex_fit _ (by simp [ex_E])) (ex_all (by simp [ex_E]) ex_in4 hts hZ) (hts _ wd_505) (hts _ wd_16) hsa hst hA hK hw (⟨rfl, by simp only [shOk, shV, c_2, decide_true, decide_false, Bool.not_true, Bool.not_false, Bool.true_and, Bool.and_true, Bool.false_and, Bool.and_false, Bool.or_true, Bool.true_or, Bool.or_false, Bool.false_or, Bool.false_eq_true, Bool.true_eq_false, if_true, if_false, ↓reduceIte], rfl⟩) (hl.1.trans hml.symm) hout ⟨Nat.le_of_ble_eq_true rfl, Nat.le_of_ble_eq_true rfl, Nat.le_of_ble_eq_true rfl, Nat.le_of_ble_eq_true rfl⟩ hlocks dX5_share_25 dX5_share_28 dX5_share_29 dX5_share_31 dX5_share_34
  · skip
    have c_2 : hbd S bb = true := nb_1 c_2
    obtain ⟨b9, hb9, rfl⟩ := hbd_n hri.2.1 hb6 c_2
    have ec_b9 := nI_clamp (n := b9) (by omega)
    refine lv_iload_n hx hb dX5_share_11 rfl (lv_at hl 2 rfl) ?_
    refine wo_sI (As := [.int sd]) (rest := []) (kX5_isSide l dC dI ca ad S sd) ⟨hx, hb, hml, hown, hts⟩ (va_cwS 1 hts (wa_gS wd_241 wd_242 wd_1 wd_243) rfl rfl rfl (by decide +kernel) ⟨Nat.le_of_ble_eq_true rfl, Nat.le_of_ble_eq_true rfl⟩) hK hw hA rfl hl.1 rfl (Nat.le_of_ble_eq_true rfl) dX5_share_12 ⟨Nat.zero_le _, Nat.zero_le _⟩ (fun r_3 S_3 H locs hp_3 hw => ?_)
    have e9 := hp_3.1.symm
    subst e9
    have e9 := hp_3.2.symm
    subst e9
    refine lv_if_eq (tgt := 25) hx hb dX5_share_15 (by decide) (fun c_4 => ?_) (fun c_4 => ?_)
    · skip
      have c_4 : sdOk sd = false := nb_0 c_4
      obtain ⟨sa, hsa⟩ := hZ.2.2.2.1 (193, "no such share") (by simp [ex_S])
      exact tx_throw (S := S) (names := ex_up) hx hb htr ex_rx hown (ex_fit _ (by simp [ex_E])) (ex_all (by simp [ex_E]) ex_in4 hts hZ) (hts _ wd_505) (hts _ wd_16) hsa hst hA hK hw (⟨rfl, by simp only [shOk, shV, c_2, ec_b9, c_4, decide_true, decide_false, Bool.not_true, Bool.not_false, Bool.true_and, Bool.and_true, Bool.false_and, Bool.and_false, Bool.or_true, Bool.true_or, Bool.or_false, Bool.false_or, Bool.false_eq_true, Bool.true_eq_false, if_true, if_false, ↓reduceIte], rfl⟩) (hl.1.trans hml.symm) hout ⟨Nat.le_of_ble_eq_true rfl, Nat.le_of_ble_eq_true rfl, Nat.le_of_ble_eq_true rfl, Nat.le_of_ble_eq_true rfl⟩ hlocks dX5_share_25 dX5_share_28 dX5_share_29 dX5_share_31 dX5_share_34
    · skip
      have c_4 : sdOk sd = true := nb_1 c_4
      obtain ⟨s9, hs9, rfl⟩ := sdOk_n c_4
      have ec_s9 := nI_clamp (n := s9) (by omega)
      refine lv_iload_n hx hb dX5_share_18 rfl (lv_at hl 3 rfl) ?_
      refine wo_sI (As := [.int pp]) (rest := []) (kX1_has l dC dI ca ad S pp) ⟨hx, hb, hml, hown, hts⟩ (va_cwS 1 hts (wa_gS wd_344 wd_197 wd_2 wd_198) rfl rfl rfl (by decide +kernel) ⟨Nat.le_of_ble_eq_true rfl, Nat.le_of_ble_eq_true rfl⟩) hK hw hA rfl hl.1 rfl (Nat.le_of_ble_eq_true rfl) dX5_share_19 ⟨Nat.zero_le _, Nat.zero_le _⟩ (fun r_5 S_5 H locs hp_5 hw => ?_)
      have e9 := hp_5.1.symm
      subst e9
      have e9 := hp_5.2.symm
      subst e9
      refine lv_if_ne (tgt := 35) hx hb dX5_share_22 (by decide) (fun c_6 => ?_) (fun c_6 => ?_)
      · skip
        have c_6 : h6 pp = true := nb_1 c_6
        obtain ⟨p9, hp9, rfl⟩ := h6_n c_6
        have ec_p9 := nI_clamp (n := p9) (by omega)
        refine lv_aload_n hx hb dX5_share_35 rfl (lv_at hl 0 rfl) ?_
        refine wo_get hx hb hts inX5 hown hK hw 0 rfl rfl 1 (by decide) (hts _ wd_167) (fun _ h9 => h9) rfl dX5_share_36 ?_
        refine lv_iload_n hx hb dX5_share_39 rfl (lv_at hl 1 rfl) ?_
        refine lv_iload_n hx hb dX5_share_40 rfl (lv_at hl 2 rfl) ?_
        refine lv_iload_n hx hb dX5_share_41 rfl (lv_at hl 3 rfl) ?_
        refine wo_vL (As := [.int (nI b9), .int (nI s9), .int (nI p9)]) (rest := []) (kX0_shareOf l dC dI ca ad S b9 s9 p9 (by first | assumption | omega) (by first | assumption | omega) (by first | assumption | omega)) ⟨hx, hb, hml, hown, hts⟩ (cwV 3 hts (wa_gV wd_244 wd_219 wd_220 wd_4 wd_221) rfl rfl rfl (by decide +kernel) ⟨Nat.le_of_ble_eq_true rfl, Nat.le_of_ble_eq_true rfl⟩) hK hw hA 2 rfl rfl rfl rfl hl.1 rfl (Nat.le_of_ble_eq_true rfl) dX5_share_42 ⟨Nat.zero_le _, Nat.zero_le _⟩ (fun r_7 S_7 H locs hp_7 hw => ?_)
        have e9 := hp_7.1.symm
        subst e9
        have e9 := hp_7.2.symm
        subst e9
        exact tx_ret (ct_lret (S := S) (v := S.2 (14 + (b9 * 2 + s9)) p9) hx hb hr hlocks hK hw (⟨by simp only [shOk, shV, c_2, ec_b9, c_4, ec_s9, c_6, ec_p9, decide_true, decide_false, Bool.not_true, Bool.not_false, Bool.true_and, Bool.and_true, Bool.false_and, Bool.and_false, Bool.or_true, Bool.true_or, Bool.or_false, Bool.false_or, Bool.false_eq_true, Bool.true_eq_false, if_true, if_false, ↓reduceIte], by simp only [shOk, shV, c_2, ec_b9, c_4, ec_s9, c_6, ec_p9, decide_true, decide_false, Bool.not_true, Bool.not_false, Bool.true_and, Bool.and_true, Bool.false_and, Bool.and_false, Bool.or_true, Bool.true_or, Bool.or_false, Bool.false_or, Bool.false_eq_true, Bool.true_eq_false, if_true, if_false, ↓reduceIte], rfl⟩) dX5_share_45)
      · skip
        have c_6 : h6 pp = false := nb_0 c_6
        obtain ⟨sa, hsa⟩ := hZ.2.2.2.1 (193, "no such share") (by simp [ex_S])
        exact tx_throw (S := S) (names := ex_up) hx hb htr ex_rx hown (ex_fit _ (by simp [ex_E])) (ex_all (by simp [ex_E]) ex_in4 hts hZ) (hts _ wd_505) (hts _ wd_16) hsa hst hA hK hw (⟨rfl, by simp only [shOk, shV, c_2, ec_b9, c_4, ec_s9, c_6, decide_true, decide_false, Bool.not_true, Bool.not_false, Bool.true_and, Bool.and_true, Bool.false_and, Bool.and_false, Bool.or_true, Bool.true_or, Bool.or_false, Bool.false_or, Bool.false_eq_true, Bool.true_eq_false, if_true, if_false, ↓reduceIte], rfl⟩) (hl.1.trans hml.symm) hout ⟨Nat.le_of_ble_eq_true rfl, Nat.le_of_ble_eq_true rfl, Nat.le_of_ble_eq_true rfl, Nat.le_of_ble_eq_true rfl⟩ hlocks dX5_share_25 dX5_share_28 dX5_share_29 dX5_share_31 dX5_share_34

set_option maxHeartbeats 4000000 in
set_option maxRecDepth 100000 in
theorem kX5_sum (l : Launch) (htr : l.stackTraces = false) (dC : Nat → ClassId) (dI : Nat → Nat → Nat) (ca : Nat → ClassId) (ad : Nat → Nat) (S : sSt) (bb : Int32) (wh : Int32) (nb : Nat) (nr : Nat) (hb6 : nb ≤ 6) (hr2 : nr ≤ 200) (hri : RI nb nr S) : tx_M l yX5_sum (Cond.code yX5_sum cX5_sum 3 (some .long) :: wa_T) ({ frames := 6, cells := 1, slots := 6, locals := 90 } : Room) (dC, dI) vwCl (tyl ca) (wc ca ad) S [.ref (ad 0), .int bb, .int wh] (fun A => va_Ql (fun r S2 => suOk S bb wh = true ∧ r = suV S nr bb wh ∧ S2 = S) (ct_B (dC, dI) vwCl (tyl ca) (wc ca ad) A) A) (fun E S2 => E = "java/util/NoSuchElementException" ∧ suOk S bb wh = false ∧ S2 = S) := by
  refine tx_of (by decide) (Nat.le_of_ble_eq_true rfl) ?_
  intro p e s m below meth c A ls hx hb hr hml hts hown hlocks hK hA hw hl hout hZ hst
  have hl : lv_has ls 3 [(0, .ref (ad 0)), (1, .int bb), (2, .int wh)] := hl
  refine lv_aload_n hx hb dX5_sum_0 rfl (lv_at hl 0 rfl) ?_
  refine wo_get hx hb hts inX5 hown hK hw 0 rfl rfl 1 (by decide) (hts _ wd_167) (fun _ h9 => h9) rfl dX5_sum_1 ?_
  refine lv_iload_n hx hb dX5_sum_4 rfl (lv_at hl 1 rfl) ?_
  refine wo_vI (As := [.int bb]) (rest := []) (kX0_has l dC dI ca ad S bb) ⟨hx, hb, hml, hown, hts⟩ (cwV 1 hts (wa_gV wd_208 wd_209 wd_210 wd_4 wd_211) rfl rfl rfl (by decide +kernel) ⟨Nat.le_of_ble_eq_true rfl, Nat.le_of_ble_eq_true rfl⟩) hK hw hA 2 rfl rfl rfl rfl hl.1 rfl (Nat.le_of_ble_eq_true rfl) dX5_sum_5 ⟨Nat.zero_le _, Nat.zero_le _⟩ (fun r_1 S_1 H locs hp_1 hw => ?_)
  have e9 := hp_1.1.symm
  subst e9
  have e9 := hp_1.2.symm
  subst e9
  refine lv_if_ne (tgt := 21) hx hb dX5_sum_8 (by decide) (fun c_2 => ?_) (fun c_2 => ?_)
  · skip
    have c_2 : hbd S bb = true := nb_1 c_2
    obtain ⟨b9, hb9, rfl⟩ := hbd_n hri.2.1 hb6 c_2
    have ec_b9 := nI_clamp (n := b9) (by omega)
    refine lv_iload_n hx hb dX5_sum_21 rfl (lv_at hl 2 rfl) ?_
    by_cases c_3 : wh = nI 0
    · skip
      subst c_3
      refine lv_tableIn (tgt := 72) hx hb dX5_sum_22 (by decide) (by decide) rfl (by decide) ?_
      refine lv_aload_n hx hb dX5_sum_72 rfl (lv_at hl 0 rfl) ?_
      refine wo_get hx hb hts inX5 hown hK hw 0 rfl rfl 1 (by decide) (hts _ wd_167) (fun _ h9 => h9) rfl dX5_sum_73 ?_
      refine wo_get hx hb hts inX0 hown hK hw 2 rfl rfl 2 (by decide) (hts _ wd_68) (fun _ h9 => h9) rfl dX5_sum_76 ?_
      refine lv_iload_n hx hb dX5_sum_79 rfl (lv_at hl 1 rfl) ?_
      refine wo_lald hx hb hK hw 11 1 rfl rfl b9 rfl (by first | assumption | omega) (by decide) dX5_sum_80 ?_
      exact tx_ret (ct_lret (S := S) (v := S.2 11 b9) hx hb hr hlocks hK hw (⟨by simp only [suOk, c_2, ec_b9, decide_true, decide_false, Bool.not_true, Bool.not_false, Bool.true_and, Bool.and_true, Bool.false_and, Bool.and_false, Bool.or_true, Bool.true_or, Bool.or_false, Bool.false_or, Bool.false_eq_true, Bool.true_eq_false, if_true, if_false, ↓reduceIte]; rfl, by simp only [suV, ec_b9]; rfl, rfl⟩) dX5_sum_81)
    by_cases c_4 : wh = nI 1
    · skip
      subst c_4
      refine lv_tableIn (tgt := 82) hx hb dX5_sum_22 (by decide) (by decide) rfl (by decide) ?_
      refine lv_aload_n hx hb dX5_sum_82 rfl (lv_at hl 0 rfl) ?_
      refine wo_get hx hb hts inX5 hown hK hw 0 rfl rfl 1 (by decide) (hts _ wd_167) (fun _ h9 => h9) rfl dX5_sum_83 ?_
      refine wo_get hx hb hts inX0 hown hK hw 2 rfl rfl 1 (by decide) (hts _ wd_66) (fun _ h9 => h9) rfl dX5_sum_86 ?_
      refine lv_iload_n hx hb dX5_sum_89 rfl (lv_at hl 1 rfl) ?_
      refine wo_lald hx hb hK hw 10 1 rfl rfl b9 rfl (by first | assumption | omega) (by decide) dX5_sum_90 ?_
      exact tx_ret (ct_lret (S := S) (v := S.2 10 b9) hx hb hr hlocks hK hw (⟨by simp only [suOk, c_2, ec_b9, decide_true, decide_false, Bool.not_true, Bool.not_false, Bool.true_and, Bool.and_true, Bool.false_and, Bool.and_false, Bool.or_true, Bool.true_or, Bool.or_false, Bool.false_or, Bool.false_eq_true, Bool.true_eq_false, if_true, if_false, ↓reduceIte]; rfl, by simp only [suV, ec_b9]; rfl, rfl⟩) dX5_sum_91)
    by_cases c_5 : wh = nI 2
    · skip
      subst c_5
      refine lv_tableIn (tgt := 92) hx hb dX5_sum_22 (by decide) (by decide) rfl (by decide) ?_
      refine lv_aload_n hx hb dX5_sum_92 rfl (lv_at hl 0 rfl) ?_
      refine wo_get hx hb hts inX5 hown hK hw 0 rfl rfl 1 (by decide) (hts _ wd_167) (fun _ h9 => h9) rfl dX5_sum_93 ?_
      refine wo_get hx hb hts inX0 hown hK hw 2 rfl rfl 3 (by decide) (hts _ wd_70) (fun _ h9 => h9) rfl dX5_sum_96 ?_
      refine lv_iload_n hx hb dX5_sum_99 rfl (lv_at hl 1 rfl) ?_
      refine wo_lald hx hb hK hw 12 1 rfl rfl b9 rfl (by first | assumption | omega) (by decide) dX5_sum_100 ?_
      exact tx_ret (ct_lret (S := S) (v := S.2 12 b9) hx hb hr hlocks hK hw (⟨by simp only [suOk, c_2, ec_b9, decide_true, decide_false, Bool.not_true, Bool.not_false, Bool.true_and, Bool.and_true, Bool.false_and, Bool.and_false, Bool.or_true, Bool.true_or, Bool.or_false, Bool.false_or, Bool.false_eq_true, Bool.true_eq_false, if_true, if_false, ↓reduceIte]; rfl, by simp only [suV, ec_b9]; rfl, rfl⟩) dX5_sum_101)
    by_cases c_6 : wh = nI 3
    · skip
      subst c_6
      refine lv_tableIn (tgt := 102) hx hb dX5_sum_22 (by decide) (by decide) rfl (by decide) ?_
      refine lv_aload_n hx hb dX5_sum_102 rfl (lv_at hl 0 rfl) ?_
      refine lv_iload_n hx hb dX5_sum_103 rfl (lv_at hl 1 rfl) ?_
      refine lv_iconst (v := nI 0) hx hb dX5_sum_104 (by decide) ?_
      refine lv_iconst (v := nI 1) hx hb dX5_sum_105 (by decide) ?_
      refine wo_vL (As := [.int (nI b9), .int (nI 0), .int (nI 1)]) (rest := []) (kX5_sharesOfThose l dC dI ca ad S b9 0 true (by first | assumption | omega) (by first | assumption | omega)) ⟨hx, hb, hml, hown, hts⟩ (cwV 3 hts (wa_gV wd_529 wd_531 ws_10 wd_1 wd_532) rfl rfl rfl (by decide +kernel) ⟨Nat.le_of_ble_eq_true rfl, Nat.le_of_ble_eq_true rfl⟩) hK hw hA 0 rfl rfl rfl rfl hl.1 rfl (Nat.le_of_ble_eq_true rfl) dX5_sum_106 ⟨Nat.zero_le _, Nat.zero_le _⟩ (fun r_7 S_7 H locs hp_7 hw => ?_)
      have e9 := hp_7.1.symm
      subst e9
      have e9 := hp_7.2.symm
      subst e9
      exact tx_ret (ct_lret (S := S) (v := shT S (b9 * 2 + 0) true 6) hx hb hr hlocks hK hw (⟨by simp only [suOk, c_2, ec_b9, decide_true, decide_false, Bool.not_true, Bool.not_false, Bool.true_and, Bool.and_true, Bool.false_and, Bool.and_false, Bool.or_true, Bool.true_or, Bool.or_false, Bool.false_or, Bool.false_eq_true, Bool.true_eq_false, if_true, if_false, ↓reduceIte]; rfl, by simp only [suV, ec_b9]; rfl, rfl⟩) dX5_sum_109)
    by_cases c_8 : wh = nI 4
    · skip
      subst c_8
      refine lv_tableIn (tgt := 110) hx hb dX5_sum_22 (by decide) (by decide) rfl (by decide) ?_
      refine lv_aload_n hx hb dX5_sum_110 rfl (lv_at hl 0 rfl) ?_
      refine lv_iload_n hx hb dX5_sum_111 rfl (lv_at hl 1 rfl) ?_
      refine lv_iconst (v := nI 1) hx hb dX5_sum_112 (by decide) ?_
      refine lv_iconst (v := nI 1) hx hb dX5_sum_113 (by decide) ?_
      refine wo_vL (As := [.int (nI b9), .int (nI 1), .int (nI 1)]) (rest := []) (kX5_sharesOfThose l dC dI ca ad S b9 1 true (by first | assumption | omega) (by first | assumption | omega)) ⟨hx, hb, hml, hown, hts⟩ (cwV 3 hts (wa_gV wd_529 wd_531 ws_10 wd_1 wd_532) rfl rfl rfl (by decide +kernel) ⟨Nat.le_of_ble_eq_true rfl, Nat.le_of_ble_eq_true rfl⟩) hK hw hA 0 rfl rfl rfl rfl hl.1 rfl (Nat.le_of_ble_eq_true rfl) dX5_sum_114 ⟨Nat.zero_le _, Nat.zero_le _⟩ (fun r_9 S_9 H locs hp_9 hw => ?_)
      have e9 := hp_9.1.symm
      subst e9
      have e9 := hp_9.2.symm
      subst e9
      exact tx_ret (ct_lret (S := S) (v := shT S (b9 * 2 + 1) true 6) hx hb hr hlocks hK hw (⟨by simp only [suOk, c_2, ec_b9, decide_true, decide_false, Bool.not_true, Bool.not_false, Bool.true_and, Bool.and_true, Bool.false_and, Bool.and_false, Bool.or_true, Bool.true_or, Bool.or_false, Bool.false_or, Bool.false_eq_true, Bool.true_eq_false, if_true, if_false, ↓reduceIte]; rfl, by simp only [suV, ec_b9]; rfl, rfl⟩) dX5_sum_117)
    by_cases c_10 : wh = nI 5
    · skip
      subst c_10
      refine lv_tableIn (tgt := 118) hx hb dX5_sum_22 (by decide) (by decide) rfl (by decide) ?_
      refine lv_aload_n hx hb dX5_sum_118 rfl (lv_at hl 0 rfl) ?_
      refine lv_iload_n hx hb dX5_sum_119 rfl (lv_at hl 1 rfl) ?_
      refine lv_iconst (v := nI 0) hx hb dX5_sum_120 (by decide) ?_
      refine lv_iconst (v := nI 0) hx hb dX5_sum_121 (by decide) ?_
      refine wo_vL (As := [.int (nI b9), .int (nI 0), .int (nI 0)]) (rest := []) (kX5_heldByRows l dC dI ca ad S b9 0 false nr hr2 hri.2.2) ⟨hx, hb, hml, hown, hts⟩ (cwV 3 hts (wa_gV wd_533 wd_535 ws_11 wd_1 wd_536) rfl rfl rfl (by decide +kernel) ⟨Nat.le_of_ble_eq_true rfl, Nat.le_of_ble_eq_true rfl⟩) hK hw hA 0 rfl rfl rfl rfl hl.1 rfl (Nat.le_of_ble_eq_true rfl) dX5_sum_122 ⟨Nat.zero_le _, Nat.zero_le _⟩ (fun r_11 S_11 H locs hp_11 hw => ?_)
      have e9 := hp_11.1.symm
      subst e9
      have e9 := hp_11.2.symm
      subst e9
      exact tx_ret (ct_lret (S := S) (v := hbr S b9 0 false nr) hx hb hr hlocks hK hw (⟨by simp only [suOk, c_2, ec_b9, decide_true, decide_false, Bool.not_true, Bool.not_false, Bool.true_and, Bool.and_true, Bool.false_and, Bool.and_false, Bool.or_true, Bool.true_or, Bool.or_false, Bool.false_or, Bool.false_eq_true, Bool.true_eq_false, if_true, if_false, ↓reduceIte]; rfl, by simp only [suV, ec_b9]; rfl, rfl⟩) dX5_sum_125)
    by_cases c_12 : wh = nI 6
    · skip
      subst c_12
      refine lv_tableIn (tgt := 126) hx hb dX5_sum_22 (by decide) (by decide) rfl (by decide) ?_
      refine lv_aload_n hx hb dX5_sum_126 rfl (lv_at hl 0 rfl) ?_
      refine lv_iload_n hx hb dX5_sum_127 rfl (lv_at hl 1 rfl) ?_
      refine lv_iconst (v := nI 1) hx hb dX5_sum_128 (by decide) ?_
      refine lv_iconst (v := nI 0) hx hb dX5_sum_129 (by decide) ?_
      refine wo_vL (As := [.int (nI b9), .int (nI 1), .int (nI 0)]) (rest := []) (kX5_heldByRows l dC dI ca ad S b9 1 false nr hr2 hri.2.2) ⟨hx, hb, hml, hown, hts⟩ (cwV 3 hts (wa_gV wd_533 wd_535 ws_11 wd_1 wd_536) rfl rfl rfl (by decide +kernel) ⟨Nat.le_of_ble_eq_true rfl, Nat.le_of_ble_eq_true rfl⟩) hK hw hA 0 rfl rfl rfl rfl hl.1 rfl (Nat.le_of_ble_eq_true rfl) dX5_sum_130 ⟨Nat.zero_le _, Nat.zero_le _⟩ (fun r_13 S_13 H locs hp_13 hw => ?_)
      have e9 := hp_13.1.symm
      subst e9
      have e9 := hp_13.2.symm
      subst e9
      exact tx_ret (ct_lret (S := S) (v := hbr S b9 1 false nr) hx hb hr hlocks hK hw (⟨by simp only [suOk, c_2, ec_b9, decide_true, decide_false, Bool.not_true, Bool.not_false, Bool.true_and, Bool.and_true, Bool.false_and, Bool.and_false, Bool.or_true, Bool.true_or, Bool.or_false, Bool.false_or, Bool.false_eq_true, Bool.true_eq_false, if_true, if_false, ↓reduceIte]; rfl, by simp only [suV, ec_b9]; rfl, rfl⟩) dX5_sum_133)
    by_cases c_14 : wh = nI 7
    · skip
      subst c_14
      refine lv_tableIn (tgt := 134) hx hb dX5_sum_22 (by decide) (by decide) rfl (by decide) ?_
      refine lv_aload_n hx hb dX5_sum_134 rfl (lv_at hl 0 rfl) ?_
      refine lv_iload_n hx hb dX5_sum_135 rfl (lv_at hl 1 rfl) ?_
      refine lv_iconst (v := nI 0) hx hb dX5_sum_136 (by decide) ?_
      refine lv_iconst (v := nI 0) hx hb dX5_sum_137 (by decide) ?_
      refine wo_vL (As := [.int (nI b9), .int (nI 0), .int (nI 0)]) (rest := []) (kX5_sharesOfThose l dC dI ca ad S b9 0 false (by first | assumption | omega) (by first | assumption | omega)) ⟨hx, hb, hml, hown, hts⟩ (cwV 3 hts (wa_gV wd_529 wd_531 ws_10 wd_1 wd_532) rfl rfl rfl (by decide +kernel) ⟨Nat.le_of_ble_eq_true rfl, Nat.le_of_ble_eq_true rfl⟩) hK hw hA 0 rfl rfl rfl rfl hl.1 rfl (Nat.le_of_ble_eq_true rfl) dX5_sum_138 ⟨Nat.zero_le _, Nat.zero_le _⟩ (fun r_15 S_15 H locs hp_15 hw => ?_)
      have e9 := hp_15.1.symm
      subst e9
      have e9 := hp_15.2.symm
      subst e9
      refine lv_aload_n hx hb dX5_sum_141 rfl (lv_at hl 0 rfl) ?_
      refine lv_iload_n hx hb dX5_sum_142 rfl (lv_at hl 1 rfl) ?_
      refine lv_iconst (v := nI 0) hx hb dX5_sum_143 (by decide) ?_
      refine lv_iconst (v := nI 1) hx hb dX5_sum_144 (by decide) ?_
      refine wo_vL (As := [.int (nI b9), .int (nI 0), .int (nI 1)]) (rest := [.long (shT S (b9 * 2 + 0) false 6)]) (kX5_heldByRows l dC dI ca ad S b9 0 true nr hr2 hri.2.2) ⟨hx, hb, hml, hown, hts⟩ (cwV 3 hts (wa_gV wd_533 wd_535 ws_11 wd_1 wd_536) rfl rfl rfl (by decide +kernel) ⟨Nat.le_of_ble_eq_true rfl, Nat.le_of_ble_eq_true rfl⟩) hK hw hA 0 rfl rfl rfl rfl hl.1 rfl (Nat.le_of_ble_eq_true rfl) dX5_sum_145 ⟨Nat.zero_le _, Nat.zero_le _⟩ (fun r_16 S_16 H locs hp_16 hw => ?_)
      have e9 := hp_16.1.symm
      subst e9
      have e9 := hp_16.2.symm
      subst e9
      refine lv_ladd hx hb dX5_sum_148 ?_
      exact tx_ret (ct_lret (S := S) (v := (shT S (b9 * 2 + 0) false 6) + (hbr S b9 0 true nr)) hx hb hr hlocks hK hw (⟨by simp only [suOk, c_2, ec_b9, decide_true, decide_false, Bool.not_true, Bool.not_false, Bool.true_and, Bool.and_true, Bool.false_and, Bool.and_false, Bool.or_true, Bool.true_or, Bool.or_false, Bool.false_or, Bool.false_eq_true, Bool.true_eq_false, if_true, if_false, ↓reduceIte]; rfl, by simp only [suV, ec_b9]; rfl, rfl⟩) dX5_sum_149)
    by_cases c_17 : wh = nI 8
    · skip
      subst c_17
      refine lv_tableIn (tgt := 150) hx hb dX5_sum_22 (by decide) (by decide) rfl (by decide) ?_
      refine lv_aload_n hx hb dX5_sum_150 rfl (lv_at hl 0 rfl) ?_
      refine lv_iload_n hx hb dX5_sum_151 rfl (lv_at hl 1 rfl) ?_
      refine lv_iconst (v := nI 1) hx hb dX5_sum_152 (by decide) ?_
      refine lv_iconst (v := nI 0) hx hb dX5_sum_153 (by decide) ?_
      refine wo_vL (As := [.int (nI b9), .int (nI 1), .int (nI 0)]) (rest := []) (kX5_sharesOfThose l dC dI ca ad S b9 1 false (by first | assumption | omega) (by first | assumption | omega)) ⟨hx, hb, hml, hown, hts⟩ (cwV 3 hts (wa_gV wd_529 wd_531 ws_10 wd_1 wd_532) rfl rfl rfl (by decide +kernel) ⟨Nat.le_of_ble_eq_true rfl, Nat.le_of_ble_eq_true rfl⟩) hK hw hA 0 rfl rfl rfl rfl hl.1 rfl (Nat.le_of_ble_eq_true rfl) dX5_sum_154 ⟨Nat.zero_le _, Nat.zero_le _⟩ (fun r_18 S_18 H locs hp_18 hw => ?_)
      have e9 := hp_18.1.symm
      subst e9
      have e9 := hp_18.2.symm
      subst e9
      refine lv_aload_n hx hb dX5_sum_157 rfl (lv_at hl 0 rfl) ?_
      refine lv_iload_n hx hb dX5_sum_158 rfl (lv_at hl 1 rfl) ?_
      refine lv_iconst (v := nI 1) hx hb dX5_sum_159 (by decide) ?_
      refine lv_iconst (v := nI 1) hx hb dX5_sum_160 (by decide) ?_
      refine wo_vL (As := [.int (nI b9), .int (nI 1), .int (nI 1)]) (rest := [.long (shT S (b9 * 2 + 1) false 6)]) (kX5_heldByRows l dC dI ca ad S b9 1 true nr hr2 hri.2.2) ⟨hx, hb, hml, hown, hts⟩ (cwV 3 hts (wa_gV wd_533 wd_535 ws_11 wd_1 wd_536) rfl rfl rfl (by decide +kernel) ⟨Nat.le_of_ble_eq_true rfl, Nat.le_of_ble_eq_true rfl⟩) hK hw hA 0 rfl rfl rfl rfl hl.1 rfl (Nat.le_of_ble_eq_true rfl) dX5_sum_161 ⟨Nat.zero_le _, Nat.zero_le _⟩ (fun r_19 S_19 H locs hp_19 hw => ?_)
      have e9 := hp_19.1.symm
      subst e9
      have e9 := hp_19.2.symm
      subst e9
      refine lv_ladd hx hb dX5_sum_164 ?_
      exact tx_ret (ct_lret (S := S) (v := (shT S (b9 * 2 + 1) false 6) + (hbr S b9 1 true nr)) hx hb hr hlocks hK hw (⟨by simp only [suOk, c_2, ec_b9, decide_true, decide_false, Bool.not_true, Bool.not_false, Bool.true_and, Bool.and_true, Bool.false_and, Bool.and_false, Bool.or_true, Bool.true_or, Bool.or_false, Bool.false_or, Bool.false_eq_true, Bool.true_eq_false, if_true, if_false, ↓reduceIte]; rfl, by simp only [suV, ec_b9]; rfl, rfl⟩) dX5_sum_165)
    refine lv_tableOut (tgt := 166) hx hb dX5_sum_22 (by have q0 := lv_neT c_3 (a := 0) (by decide); have q1 := lv_neT c_4 (a := 1) (by decide); have q2 := lv_neT c_5 (a := 2) (by decide); have q3 := lv_neT c_6 (a := 3) (by decide); have q4 := lv_neT c_8 (a := 4) (by decide); have q5 := lv_neT c_10 (a := 5) (by decide); have q6 := lv_neT c_12 (a := 6) (by decide); have q7 := lv_neT c_14 (a := 7) (by decide); have q8 := lv_neT c_17 (a := 8) (by decide); omega) (by decide) ?_
    obtain ⟨sa, hsa⟩ := hZ.2.2.2.1 (214, "no such sum") (by simp [ex_S])
    exact tx_throw (S := S) (names := ex_up) hx hb htr ex_rx hown (ex_fit _ (by simp [ex_E])) (ex_all (by simp [ex_E]) ex_in4 hts hZ) (hts _ wd_505) (hts _ wd_16) hsa hst hA hK hw (⟨rfl, by simp only [suOk, suW, c_2, ec_b9, c_3, c_4, c_5, c_6, c_8, c_10, c_12, c_14, c_17, decide_true, decide_false, Bool.not_true, Bool.not_false, Bool.true_and, Bool.and_true, Bool.false_and, Bool.and_false, Bool.or_true, Bool.true_or, Bool.or_false, Bool.false_or, Bool.false_eq_true, Bool.true_eq_false, if_true, if_false, ↓reduceIte], rfl⟩) (hl.1.trans hml.symm) hout ⟨Nat.le_of_ble_eq_true rfl, Nat.le_of_ble_eq_true rfl, Nat.le_of_ble_eq_true rfl, Nat.le_of_ble_eq_true rfl⟩ hlocks dX5_sum_166 dX5_sum_169 dX5_sum_170 dX5_sum_172 dX5_sum_175
  · skip
    have c_2 : hbd S bb = false := nb_0 c_2
    obtain ⟨sa, hsa⟩ := hZ.2.2.2.1 (196, "no such bound") (by simp [ex_S])
    exact tx_throw (S := S) (names := ex_up) hx hb htr ex_rx hown (ex_fit _ (by simp [ex_E])) (ex_all (by simp [ex_E]) ex_in4 hts hZ) (hts _ wd_505) (hts _ wd_16) hsa hst hA hK hw (⟨rfl, by simp only [suOk, suW, c_2, decide_true, decide_false, Bool.not_true, Bool.not_false, Bool.true_and, Bool.and_true, Bool.false_and, Bool.and_false, Bool.or_true, Bool.true_or, Bool.or_false, Bool.false_or, Bool.false_eq_true, Bool.true_eq_false, if_true, if_false, ↓reduceIte], rfl⟩) (hl.1.trans hml.symm) hout ⟨Nat.le_of_ble_eq_true rfl, Nat.le_of_ble_eq_true rfl, Nat.le_of_ble_eq_true rfl, Nat.le_of_ble_eq_true rfl⟩ hlocks dX5_sum_11 dX5_sum_14 dX5_sum_15 dX5_sum_17 dX5_sum_20

set_option maxHeartbeats 4000000 in
set_option maxRecDepth 100000 in
theorem kX5_lent (l : Launch) (htr : l.stackTraces = false) (dC : Nat → ClassId) (dI : Nat → Nat → Nat) (ca : Nat → ClassId) (ad : Nat → Nat) (S : sSt) (rr : Int32) (nb : Nat) (nr : Nat) (hb6 : nb ≤ 6) (hr2 : nr ≤ 200) (hri : RI nb nr S) : tx_M l yX5_lent (Cond.code yX5_lent cX5_lent 2 (some .long) :: wa_T) ({ frames := 6, cells := 1, slots := 6, locals := 90 } : Room) (dC, dI) vwCl (tyl ca) (wc ca ad) S [.ref (ad 0), .int rr] (fun A => va_Ql (fun r S2 => hrw S rr = true ∧ r = S.2 32 rr.toNatClampNeg ∧ S2 = S) (ct_B (dC, dI) vwCl (tyl ca) (wc ca ad) A) A) (fun E S2 => E = "java/util/NoSuchElementException" ∧ hrw S rr = false ∧ S2 = S) := by
  refine tx_of (by decide) (Nat.le_of_ble_eq_true rfl) ?_
  intro p e s m below meth c A ls hx hb hr hml hts hown hlocks hK hA hw hl hout hZ hst
  have hl : lv_has ls 2 [(0, .ref (ad 0)), (1, .int rr)] := hl
  refine lv_aload_n hx hb dX5_lent_0 rfl (lv_at hl 0 rfl) ?_
  refine wo_get hx hb hts inX5 hown hK hw 0 rfl rfl 2 (by decide) (hts _ wd_168) (fun _ h9 => h9) rfl dX5_lent_1 ?_
  refine lv_iload_n hx hb dX5_lent_4 rfl (lv_at hl 1 rfl) ?_
  refine wo_vI (As := [.int rr]) (rest := []) (kX3_has l dC dI ca ad S rr) ⟨hx, hb, hml, hown, hts⟩ (cwV 1 hts (wa_gV wd_269 wd_270 wd_271 wd_5 wd_272) rfl rfl rfl (by decide +kernel) ⟨Nat.le_of_ble_eq_true rfl, Nat.le_of_ble_eq_true rfl⟩) hK hw hA 3 rfl rfl rfl rfl hl.1 rfl (Nat.le_of_ble_eq_true rfl) dX5_lent_5 ⟨Nat.zero_le _, Nat.zero_le _⟩ (fun r_1 S_1 H locs hp_1 hw => ?_)
  have e9 := hp_1.1.symm
  subst e9
  have e9 := hp_1.2.symm
  subst e9
  refine lv_if_ne (tgt := 21) hx hb dX5_lent_8 (by decide) (fun c_2 => ?_) (fun c_2 => ?_)
  · skip
    have c_2 : hrw S rr = true := nb_1 c_2
    have hc9 := c_2
    obtain ⟨r9, hr9, hr9n, rfl⟩ := hrw_n hri.2.2 hr2 c_2
    have ec_r9 := nI_clamp (n := r9) (by omega)
    refine lv_aload_n hx hb dX5_lent_21 rfl (lv_at hl 0 rfl) ?_
    refine wo_get hx hb hts inX5 hown hK hw 0 rfl rfl 2 (by decide) (hts _ wd_168) (fun _ h9 => h9) rfl dX5_lent_22 ?_
    refine wo_get hx hb hts inX3 hown hK hw 3 rfl rfl 7 (by decide) (hts _ wd_104) (fun _ h9 => h9) rfl dX5_lent_25 ?_
    refine lv_iload_n hx hb dX5_lent_28 rfl (lv_at hl 1 rfl) ?_
    refine wo_lald hx hb hK hw 32 1 rfl rfl r9 rfl (by first | assumption | omega) (by decide) dX5_lent_29 ?_
    exact tx_ret (ct_lret (S := S) (v := S.2 32 r9) hx hb hr hlocks hK hw (⟨hc9, by rw [ec_r9], rfl⟩) dX5_lent_30)
  · skip
    have c_2 : hrw S rr = false := nb_0 c_2
    obtain ⟨sa, hsa⟩ := hZ.2.2.2.1 (219, "no such row") (by simp [ex_S])
    exact tx_throw (S := S) (names := ex_up) hx hb htr ex_rx hown (ex_fit _ (by simp [ex_E])) (ex_all (by simp [ex_E]) ex_in4 hts hZ) (hts _ wd_505) (hts _ wd_16) hsa hst hA hK hw (⟨rfl, c_2, rfl⟩) (hl.1.trans hml.symm) hout ⟨Nat.le_of_ble_eq_true rfl, Nat.le_of_ble_eq_true rfl, Nat.le_of_ble_eq_true rfl, Nat.le_of_ble_eq_true rfl⟩ hlocks dX5_lent_11 dX5_lent_14 dX5_lent_15 dX5_lent_17 dX5_lent_20

set_option maxHeartbeats 4000000 in
set_option maxRecDepth 100000 in
theorem kX5_waits (l : Launch) (htr : l.stackTraces = false) (dC : Nat → ClassId) (dI : Nat → Nat → Nat) (ca : Nat → ClassId) (ad : Nat → Nat) (S : sSt) (pp : Int32) (kk : Int32) (nb : Nat) (nr : Nat) (hb6 : nb ≤ 6) (hr2 : nr ≤ 200) (hri : RI nb nr S) : tx_M l yX5_waits (Cond.code yX5_waits cX5_waits 3 (some .long) :: wa_T) ({ frames := 6, cells := 1, slots := 6, locals := 90 } : Room) (dC, dI) vwCl (tyl ca) (wc ca ad) S [.ref (ad 0), .int pp, .int kk] (fun A => va_Ql (fun r S2 => waOk S pp kk = true ∧ r = waV S pp kk ∧ S2 = S) (ct_B (dC, dI) vwCl (tyl ca) (wc ca ad) A) A) (fun E S2 => E = "java/util/NoSuchElementException" ∧ waOk S pp kk = false ∧ S2 = S) := by
  refine tx_of (by decide) (Nat.le_of_ble_eq_true rfl) ?_
  intro p e s m below meth c A ls hx hb hr hml hts hown hlocks hK hA hw hl hout hZ hst
  have hl : lv_has ls 3 [(0, .ref (ad 0)), (1, .int pp), (2, .int kk)] := hl
  refine lv_iload_n hx hb dX5_waits_0 rfl (lv_at hl 1 rfl) ?_
  refine wo_sI (As := [.int pp]) (rest := []) (kX1_has l dC dI ca ad S pp) ⟨hx, hb, hml, hown, hts⟩ (va_cwS 1 hts (wa_gS wd_344 wd_197 wd_2 wd_198) rfl rfl rfl (by decide +kernel) ⟨Nat.le_of_ble_eq_true rfl, Nat.le_of_ble_eq_true rfl⟩) hK hw hA rfl hl.1 rfl (Nat.le_of_ble_eq_true rfl) dX5_waits_1 ⟨Nat.zero_le _, Nat.zero_le _⟩ (fun r_1 S_1 H locs hp_1 hw => ?_)
  have e9 := hp_1.1.symm
  subst e9
  have e9 := hp_1.2.symm
  subst e9
  refine lv_if_eq (tgt := 24) hx hb dX5_waits_4 (by decide) (fun c_2 => ?_) (fun c_2 => ?_)
  · skip
    have c_2 : h6 pp = false := nb_0 c_2
    obtain ⟨sa, hsa⟩ := hZ.2.2.2.1 (227, "nothing waits there") (by simp [ex_S])
    exact tx_throw (S := S) (names := ex_up) hx hb htr ex_rx hown (ex_fit _ (by simp [ex_E])) (ex_all (by simp [ex_E]) ex_in4 hts hZ) (hts _ wd_505) (hts _ wd_16) hsa hst hA hK hw (⟨rfl, by simp only [waOk, waV, c_2, decide_true, decide_false, Bool.not_true, Bool.not_false, Bool.true_and, Bool.and_true, Bool.false_and, Bool.and_false, Bool.or_true, Bool.true_or, Bool.or_false, Bool.false_or, Bool.false_eq_true, Bool.true_eq_false, if_true, if_false, ↓reduceIte], rfl⟩) (hl.1.trans hml.symm) hout ⟨Nat.le_of_ble_eq_true rfl, Nat.le_of_ble_eq_true rfl, Nat.le_of_ble_eq_true rfl, Nat.le_of_ble_eq_true rfl⟩ hlocks dX5_waits_24 dX5_waits_27 dX5_waits_28 dX5_waits_30 dX5_waits_33
  · skip
    have c_2 : h6 pp = true := nb_1 c_2
    obtain ⟨p9, hp9, rfl⟩ := h6_n c_2
    have ec_p9 := nI_clamp (n := p9) (by omega)
    obtain ⟨kq, hkq, hq9, -⟩ := hri.1 p9 hp9
    refine lv_iload_n hx hb dX5_waits_7 rfl (lv_at hl 2 rfl) ?_
    refine lv_if_lt (tgt := 24) hx hb dX5_waits_8 (by decide) (fun c_3 => ?_) (fun c_3 => ?_)
    · skip
      obtain ⟨sa, hsa⟩ := hZ.2.2.2.1 (227, "nothing waits there") (by simp [ex_S])
      exact tx_throw (S := S) (names := ex_up) hx hb htr ex_rx hown (ex_fit _ (by simp [ex_E])) (ex_all (by simp [ex_E]) ex_in4 hts hZ) (hts _ wd_505) (hts _ wd_16) hsa hst hA hK hw (⟨rfl, by simp only [waOk, waV, c_2, ec_p9, c_3, decide_true, decide_false, Bool.not_true, Bool.not_false, Bool.true_and, Bool.and_true, Bool.false_and, Bool.and_false, Bool.or_true, Bool.true_or, Bool.or_false, Bool.false_or, Bool.false_eq_true, Bool.true_eq_false, if_true, if_false, ↓reduceIte], rfl⟩) (hl.1.trans hml.symm) hout ⟨Nat.le_of_ble_eq_true rfl, Nat.le_of_ble_eq_true rfl, Nat.le_of_ble_eq_true rfl, Nat.le_of_ble_eq_true rfl⟩ hlocks dX5_waits_24 dX5_waits_27 dX5_waits_28 dX5_waits_30 dX5_waits_33
    · skip
      refine lv_iload_n hx hb dX5_waits_11 rfl (lv_at hl 2 rfl) ?_
      refine lv_aload_n hx hb dX5_waits_12 rfl (lv_at hl 0 rfl) ?_
      refine wo_get hx hb hts inX5 hown hK hw 0 rfl rfl 3 (by decide) (hts _ wd_169) (fun _ h9 => h9) rfl dX5_waits_13 ?_
      refine wo_get hx hb hts inX2 hown hK hw 4 rfl rfl 0 (by decide) (hts _ wd_136) (fun _ h9 => h9) rfl dX5_waits_16 ?_
      refine lv_iload_n hx hb dX5_waits_19 rfl (lv_at hl 1 rfl) ?_
      refine wo_iald hx hb hK hw 34 0 rfl rfl p9 rfl (by first | assumption | omega) (by decide) dX5_waits_20 ?_
      refine lv_icmp_lt (tgt := 34) hx hb dX5_waits_21 (by decide) (fun c_4 => ?_) (fun c_4 => ?_)
      · skip
        have hk9 := c_4
        rw [hq9] at hk9
        obtain ⟨j9, hj9, rfl⟩ := waOk_n hkq c_3 hk9
        have ec_j9 := nI_clamp (n := j9) (by omega)
        refine lv_aload_n hx hb dX5_waits_34 rfl (lv_at hl 0 rfl) ?_
        refine wo_get hx hb hts inX5 hown hK hw 0 rfl rfl 3 (by decide) (hts _ wd_169) (fun _ h9 => h9) rfl dX5_waits_35 ?_
        refine wo_get hx hb hts inX2 hown hK hw 4 rfl rfl 2 (by decide) (hts _ wd_140) (fun _ h9 => h9) rfl dX5_waits_38 ?_
        refine lv_iload_n hx hb dX5_waits_41 rfl (lv_at hl 1 rfl) ?_
        refine wo_aald hx hb hK hw 42 3 rfl rfl p9 rfl (by first | assumption | omega) (by decide) (if_pos (by first | assumption | omega)) dX5_waits_42 ?_
        refine lv_iload_n hx hb dX5_waits_43 rfl (lv_at hl 2 rfl) ?_
        refine wo_lald hx hb hK hw (43 + p9) 1 (rw_42 ca ad _ p9 (by first | assumption | omega)) rfl j9 rfl (by first | assumption | omega) (by decide) dX5_waits_44 ?_
        exact tx_ret (ct_lret (S := S) (v := S.2 (43 + p9) j9) hx hb hr hlocks hK hw (⟨by simp only [waOk, waV, c_2, ec_p9, c_3, c_4, ec_j9, decide_true, decide_false, Bool.not_true, Bool.not_false, Bool.true_and, Bool.and_true, Bool.false_and, Bool.and_false, Bool.or_true, Bool.true_or, Bool.or_false, Bool.false_or, Bool.false_eq_true, Bool.true_eq_false, if_true, if_false, ↓reduceIte], by simp only [waOk, waV, c_2, ec_p9, c_3, c_4, ec_j9, decide_true, decide_false, Bool.not_true, Bool.not_false, Bool.true_and, Bool.and_true, Bool.false_and, Bool.and_false, Bool.or_true, Bool.true_or, Bool.or_false, Bool.false_or, Bool.false_eq_true, Bool.true_eq_false, if_true, if_false, ↓reduceIte], rfl⟩) dX5_waits_45)
      · skip
        obtain ⟨sa, hsa⟩ := hZ.2.2.2.1 (227, "nothing waits there") (by simp [ex_S])
        exact tx_throw (S := S) (names := ex_up) hx hb htr ex_rx hown (ex_fit _ (by simp [ex_E])) (ex_all (by simp [ex_E]) ex_in4 hts hZ) (hts _ wd_505) (hts _ wd_16) hsa hst hA hK hw (⟨rfl, by simp only [waOk, waV, c_2, ec_p9, c_3, c_4, decide_true, decide_false, Bool.not_true, Bool.not_false, Bool.true_and, Bool.and_true, Bool.false_and, Bool.and_false, Bool.or_true, Bool.true_or, Bool.or_false, Bool.false_or, Bool.false_eq_true, Bool.true_eq_false, if_true, if_false, ↓reduceIte], rfl⟩) (hl.1.trans hml.symm) hout ⟨Nat.le_of_ble_eq_true rfl, Nat.le_of_ble_eq_true rfl, Nat.le_of_ble_eq_true rfl, Nat.le_of_ble_eq_true rfl⟩ hlocks dX5_waits_24 dX5_waits_27 dX5_waits_28 dX5_waits_30 dX5_waits_33

set_option maxHeartbeats 4000000 in
set_option maxRecDepth 100000 in
theorem kX5_bound (l : Launch) (htr : l.stackTraces = false) (dC : Nat → ClassId) (dI : Nat → Nat → Nat) (ca : Nat → ClassId) (ad : Nat → Nat) (S : sSt) (fl : Int64) (va : Int64) (ce : Int64) (nb : Nat) (nr : Nat) (hb6 : nb ≤ 6) (hr2 : nr ≤ 200) (hri : RI nb nr S) : tx_M l yX5_bound (Cond.code yX5_bound cX5_bound 8 (some .int) :: wa_T) ({ frames := 6, cells := 1, slots := 6, locals := 90 } : Room) (dC, dI) vwCl (tyl ca) (wc ca ad) S [.ref (ad 0), .long fl, .long va, .long ce] (fun A => va_Qi (fun r S2 => (ordOk fl va ce = true ∧ ¬ sumW (uow S 6) 6 = 0 ∧ nb < 6) ∧ r = nI nb ∧ S2 = bdS S nb fl va ce) (ct_B (dC, dI) vwCl (tyl ca) (wc ca ad) A) A) (fun E S2 => (E = "java/lang/IllegalArgumentException" ∧ ordOk fl va ce = false ∧ S2 = S) ∨ (E = "java/lang/ArithmeticException" ∧ (ordOk fl va ce = true ∧ sumW (uow S 6) 6 = 0) ∧ S2 = uow S 6) ∨ (E = "java/lang/IllegalStateException" ∧ (ordOk fl va ce = true ∧ ¬ sumW (uow S 6) 6 = 0 ∧ ¬ nb < 6) ∧ S2 = uow S 6)) := by
  refine tx_of (by decide) (Nat.le_of_ble_eq_true rfl) ?_
  intro p e s m below meth c A ls hx hb hr hml hts hown hlocks hK hA hw hl hout hZ hst
  have hl : lv_has ls 8 [(0, .ref (ad 0)), (1, .long fl), (3, .long va), (5, .long ce)] := hl
  refine lv_lload_n hx hb dX5_bound_0 rfl (lv_at hl 1 rfl) ?_
  refine lv_lload_n hx hb dX5_bound_1 rfl (lv_at hl 2 rfl) ?_
  refine lv_lload hx hb dX5_bound_2 (lv_at hl 3 rfl) ?_
  refine wo_sI (As := [.long fl, .long va, .long ce]) (rest := []) (kX5_isInOrder l dC dI ca ad S fl va ce) ⟨hx, hb, hml, hown, hts⟩ (va_cwS 3 hts (wa_gS wd_377 wd_378 wd_1 wd_379) rfl rfl rfl (by decide +kernel) ⟨Nat.le_of_ble_eq_true rfl, Nat.le_of_ble_eq_true rfl⟩) hK hw hA rfl hl.1 rfl (Nat.le_of_ble_eq_true rfl) dX5_bound_4 ⟨Nat.zero_le _, Nat.zero_le _⟩ (fun r_1 S_1 H locs hp_1 hw => ?_)
  have e9 := hp_1.1.symm
  subst e9
  have e9 := hp_1.2.symm
  subst e9
  refine lv_if_ne (tgt := 20) hx hb dX5_bound_7 (by decide) (fun c_2 => ?_) (fun c_2 => ?_)
  · skip
    have c_2 : ordOk fl va ce = true := nb_1 c_2
    refine lv_aload_n hx hb dX5_bound_20 rfl (lv_at hl 0 rfl) ?_
    refine wo_vV (As := []) (rest := []) (kX5_useOwnWeights l dC dI ca ad S ) ⟨hx, hb, hml, hown, hts⟩ (cwV 0 hts (wa_gV wd_452 wd_454 ws_9 wd_1 wd_455) rfl rfl rfl (by decide +kernel) ⟨Nat.le_of_ble_eq_true rfl, Nat.le_of_ble_eq_true rfl⟩) hK hw hA 0 rfl rfl rfl rfl hl.1 rfl (Nat.le_of_ble_eq_true rfl) dX5_bound_21 ⟨Nat.zero_le _, Nat.zero_le _⟩ (fun S_3 H locs hp_3 hw => ?_)
    have e9 := hp_3.symm
    subst e9
    refine lv_aload_n hx hb dX5_bound_24 rfl (lv_at hl 0 rfl) ?_
    refine wo_get hx hb hts inX5 hown hK hw 0 rfl rfl 4 (by decide) (hts _ wd_170) (fun _ h9 => h9) rfl dX5_bound_25 ?_
    refine wo_vL (As := []) (rest := []) (kX4_allWeights l dC dI ca ad (uow S 6) ) ⟨hx, hb, hml, hown, hts⟩ (cwV 0 hts (wa_gV wd_456 wd_331 wd_332 wd_7 wd_333) rfl rfl rfl (by decide +kernel) ⟨Nat.le_of_ble_eq_true rfl, Nat.le_of_ble_eq_true rfl⟩) hK hw hA 5 rfl rfl rfl rfl hl.1 rfl (Nat.le_of_ble_eq_true rfl) dX5_bound_28 ⟨Nat.zero_le _, Nat.zero_le _⟩ (fun r_4 S_4 H locs hp_4 hw => ?_)
    have e9 := hp_4.1.symm
    subst e9
    have e9 := hp_4.2.symm
    subst e9
    refine lv_lconst (v := 0) hx hb dX5_bound_31 (by decide) ?_
    refine lc_ne (tgt := 46) hx hb dX5_bound_32 dX5_bound_33 (by decide) (fun c_5 => ?_) (fun c_5 => ?_)
    · skip
      refine lv_aload_n hx hb dX5_bound_46 rfl (lv_at hl 0 rfl) ?_
      refine wo_get hx hb hts inX5 hown hK hw 0 rfl rfl 1 (by decide) (hts _ wd_167) (fun _ h9 => h9) rfl dX5_bound_47 ?_
      refine wo_get hx hb hts inX0 hown hK hw 2 rfl rfl 0 (by decide) (hts _ wd_64) (fun _ h9 => h9) rfl dX5_bound_50 ?_
      refine tp_i (y := nI nb) ((congrFun (congrFun (uow_1 S 6) 2) 0).trans hri.2.1) ?_
      refine lv_bipush (v := nI 6) hx hb dX5_bound_53 (by decide) ?_
      refine lv_icmp_lt (tgt := 68) hx hb dX5_bound_55 (by decide) (fun c_6 => ?_) (fun c_6 => ?_)
      · skip
        have c_6 : nb < 6 := (nI_ltI (a := nb) (b := 6) (by omega) (by omega)).mp c_6
        refine lv_aload_n hx hb dX5_bound_68 rfl (lv_at hl 0 rfl) ?_
        refine wo_get hx hb hts inX5 hown hK hw 0 rfl rfl 1 (by decide) (hts _ wd_167) (fun _ h9 => h9) rfl dX5_bound_69 ?_
        refine lv_lload_n hx hb dX5_bound_72 rfl (lv_at hl 1 rfl) ?_
        refine lv_lload_n hx hb dX5_bound_73 rfl (lv_at hl 2 rfl) ?_
        refine lv_lload hx hb dX5_bound_74 (lv_at hl 3 rfl) ?_
        refine wo_vI (As := [.long fl, .long va, .long ce]) (rest := []) (kX0_open l dC dI ca ad (uow S 6) fl va ce nb (by first | assumption | omega) ((congrFun (congrFun (uow_1 S 6) 2) 0).trans hri.2.1)) ⟨hx, hb, hml, hown, hts⟩ (cwV 3 hts (wa_gV wd_489 wd_490 wd_491 wd_4 wd_492) rfl rfl rfl (by decide +kernel) ⟨Nat.le_of_ble_eq_true rfl, Nat.le_of_ble_eq_true rfl⟩) hK hw hA 2 rfl rfl rfl rfl hl.1 rfl (Nat.le_of_ble_eq_true rfl) dX5_bound_76 ⟨Nat.zero_le _, Nat.zero_le _⟩ (fun r_7 S_7 H locs hp_7 hw => ?_)
        have e9 := hp_7.1.symm
        subst e9
        have e9 := hp_7.2.symm
        subst e9
        refine lv_istore (lv' := [(7, .int (nI (nb))), (0, .ref (ad 0)), (1, .long fl), (3, .long va), (5, .long ce)]) hx hb dX5_bound_79 hl (by decide) rfl (fun ls hl => ?_)
        refine lv_aload_n hx hb dX5_bound_81 rfl (lv_at hl 1 rfl) ?_
        refine wo_get hx hb hts inX5 hown hK hw 0 rfl rfl 4 (by decide) (hts _ wd_170) (fun _ h9 => h9) rfl dX5_bound_82 ?_
        refine lv_lload_n hx hb dX5_bound_85 rfl (lv_at hl 3 rfl) ?_
        refine lv_lload_n hx hb dX5_bound_86 rfl (lv_at hl 2 rfl) ?_
        refine lv_lsub hx hb dX5_bound_87 ?_
        refine wo_vV (As := [.long (va - fl)]) (rest := []) (kX4_split l dC dI ca ad (bopen (uow S 6) nb fl va ce) (va - fl)) ⟨hx, hb, hml, hown, hts⟩ (cwV 1 hts (wa_gV wd_326 wd_327 wd_328 wd_7 wd_329) rfl rfl rfl (by decide +kernel) ⟨Nat.le_of_ble_eq_true rfl, Nat.le_of_ble_eq_true rfl⟩) hK hw hA 5 rfl rfl rfl rfl hl.1 rfl (Nat.le_of_ble_eq_true rfl) dX5_bound_88 ⟨Nat.zero_le _, Nat.zero_le _⟩ (fun S_8 H locs hp_8 hw => ?_)
        have eS_8 := hp_8
        refine lv_aload_n hx hb dX5_bound_91 rfl (lv_at hl 1 rfl) ?_
        refine wo_get hx hb hts inX5 hown hK hw 0 rfl rfl 1 (by decide) (hts _ wd_167) (fun _ h9 => h9) rfl dX5_bound_92 ?_
        refine lv_iload hx hb dX5_bound_95 (lv_at hl 0 rfl) ?_
        refine lv_iconst (v := nI 0) hx hb dX5_bound_97 (by decide) ?_
        refine lv_aload_n hx hb dX5_bound_98 rfl (lv_at hl 1 rfl) ?_
        refine wo_get hx hb hts inX5 hown hK hw 0 rfl rfl 4 (by decide) (hts _ wd_170) (fun _ h9 => h9) rfl dX5_bound_99 ?_
        refine wo_get hx hb hts inX4 hown hK hw 5 rfl rfl 1 (by decide) (hts _ wd_157) (fun _ h9 => h9) rfl dX5_bound_102 ?_
        refine wo_vV (As := [.int (nI (nb)), .int (nI 0), .ref (ad 50)]) (rest := []) (kX0_setShares l dC dI ca ad S_8 nb 0 (by first | assumption | omega) (by first | assumption | omega)) ⟨hx, hb, hml, hown, hts⟩ (cwV 3 hts (wa_gV wd_493 wd_494 wd_495 wd_4 wd_496) rfl rfl rfl (by decide +kernel) ⟨Nat.le_of_ble_eq_true rfl, Nat.le_of_ble_eq_true rfl⟩) hK hw hA 2 rfl rfl rfl rfl hl.1 rfl (Nat.le_of_ble_eq_true rfl) dX5_bound_105 ⟨Nat.zero_le _, Nat.zero_le _⟩ (fun S_9 H locs hp_9 hw => ?_)
        have e9 := hp_9.symm
        subst e9
        refine lv_aload_n hx hb dX5_bound_108 rfl (lv_at hl 1 rfl) ?_
        refine wo_get hx hb hts inX5 hown hK hw 0 rfl rfl 4 (by decide) (hts _ wd_170) (fun _ h9 => h9) rfl dX5_bound_109 ?_
        refine lv_lload hx hb dX5_bound_112 (lv_at hl 4 rfl) ?_
        refine lv_lload_n hx hb dX5_bound_114 rfl (lv_at hl 3 rfl) ?_
        refine lv_lsub hx hb dX5_bound_115 ?_
        refine wo_vV (As := [.long (ce - va)]) (rest := []) (kX4_split l dC dI ca ad (setSh S_8 (nb * 2 + 0) 6) (ce - va)) ⟨hx, hb, hml, hown, hts⟩ (cwV 1 hts (wa_gV wd_326 wd_327 wd_328 wd_7 wd_329) rfl rfl rfl (by decide +kernel) ⟨Nat.le_of_ble_eq_true rfl, Nat.le_of_ble_eq_true rfl⟩) hK hw hA 5 rfl rfl rfl rfl hl.1 rfl (Nat.le_of_ble_eq_true rfl) dX5_bound_116 ⟨Nat.zero_le _, Nat.zero_le _⟩ (fun S_10 H locs hp_10 hw => ?_)
        have eS_10 := hp_10
        refine lv_aload_n hx hb dX5_bound_119 rfl (lv_at hl 1 rfl) ?_
        refine wo_get hx hb hts inX5 hown hK hw 0 rfl rfl 1 (by decide) (hts _ wd_167) (fun _ h9 => h9) rfl dX5_bound_120 ?_
        refine lv_iload hx hb dX5_bound_123 (lv_at hl 0 rfl) ?_
        refine lv_iconst (v := nI 1) hx hb dX5_bound_125 (by decide) ?_
        refine lv_aload_n hx hb dX5_bound_126 rfl (lv_at hl 1 rfl) ?_
        refine wo_get hx hb hts inX5 hown hK hw 0 rfl rfl 4 (by decide) (hts _ wd_170) (fun _ h9 => h9) rfl dX5_bound_127 ?_
        refine wo_get hx hb hts inX4 hown hK hw 5 rfl rfl 1 (by decide) (hts _ wd_157) (fun _ h9 => h9) rfl dX5_bound_130 ?_
        refine wo_vV (As := [.int (nI (nb)), .int (nI 1), .ref (ad 50)]) (rest := []) (kX0_setShares l dC dI ca ad S_10 nb 1 (by first | assumption | omega) (by first | assumption | omega)) ⟨hx, hb, hml, hown, hts⟩ (cwV 3 hts (wa_gV wd_493 wd_494 wd_495 wd_4 wd_496) rfl rfl rfl (by decide +kernel) ⟨Nat.le_of_ble_eq_true rfl, Nat.le_of_ble_eq_true rfl⟩) hK hw hA 2 rfl rfl rfl rfl hl.1 rfl (Nat.le_of_ble_eq_true rfl) dX5_bound_133 ⟨Nat.zero_le _, Nat.zero_le _⟩ (fun S_11 H locs hp_11 hw => ?_)
        have e9 := hp_11.symm
        subst e9
        refine lv_iload hx hb dX5_bound_136 (lv_at hl 0 rfl) ?_
        exact tx_ret (ct_iret (S := setSh S_10 (nb * 2 + 1) 6) (v := nI (nb)) hx hb hr hlocks hK hw (⟨⟨c_2, c_5, c_6⟩, rfl, by rw [eS_10, eS_8]; rfl⟩) dX5_bound_138)
      · skip
        have c_6 : ¬ (nb < 6) := fun h9 => c_6 ((nI_ltI (a := nb) (b := 6) (by omega) (by omega)).mpr h9)
        obtain ⟨sa, hsa⟩ := hZ.2.2.2.1 (83, "there are as many bounds as can be") (by simp [ex_S])
        exact tx_throw (S := uow S 6) (names := ex_up) hx hb htr ex_six hown (ex_fit _ (by simp [ex_E])) (ex_all (by simp [ex_E]) ex_in3 hts hZ) (hts _ wd_473) (hts _ wd_14) hsa hst hA hK hw (Or.inr (Or.inr ⟨rfl, ⟨c_2, c_5, c_6⟩, rfl⟩)) (hl.1.trans hml.symm) hout ⟨Nat.le_of_ble_eq_true rfl, Nat.le_of_ble_eq_true rfl, Nat.le_of_ble_eq_true rfl, Nat.le_of_ble_eq_true rfl⟩ hlocks dX5_bound_58 dX5_bound_61 dX5_bound_62 dX5_bound_64 dX5_bound_67
    · skip
      obtain ⟨sa, hsa⟩ := hZ.2.2.2.1 (74, "all weights are 0") (by simp [ex_S])
      exact tx_throw (S := uow S 6) (names := ex_up) hx hb htr ex_six hown (ex_fit _ (by simp [ex_E])) (ex_all (by simp [ex_E]) ex_in2 hts hZ) (hts _ wd_457) (hts _ wd_13) hsa hst hA hK hw (Or.inr (Or.inl ⟨rfl, ⟨c_2, c_5⟩, rfl⟩)) (hl.1.trans hml.symm) hout ⟨Nat.le_of_ble_eq_true rfl, Nat.le_of_ble_eq_true rfl, Nat.le_of_ble_eq_true rfl, Nat.le_of_ble_eq_true rfl⟩ hlocks dX5_bound_36 dX5_bound_39 dX5_bound_40 dX5_bound_42 dX5_bound_45
  · skip
    have c_2 : ordOk fl va ce = false := nb_0 c_2
    obtain ⟨sa, hsa⟩ := hZ.2.2.2.1 (60, "floor, value and ceiling are not in this order, or too far apart") (by simp [ex_S])
    exact tx_throw (S := S) (names := ex_up) hx hb htr ex_six hown (ex_fit _ (by simp [ex_E])) (ex_all (by simp [ex_E]) ex_in1 hts hZ) (hts _ wd_383) (hts _ wd_12) hsa hst hA hK hw (Or.inl ⟨rfl, c_2, rfl⟩) (hl.1.trans hml.symm) hout ⟨Nat.le_of_ble_eq_true rfl, Nat.le_of_ble_eq_true rfl, Nat.le_of_ble_eq_true rfl, Nat.le_of_ble_eq_true rfl⟩ hlocks dX5_bound_10 dX5_bound_13 dX5_bound_14 dX5_bound_16 dX5_bound_19
