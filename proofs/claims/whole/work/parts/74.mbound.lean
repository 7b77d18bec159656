theorem dX6_bound_0 : decode cX6_bound 0 = .ok (.lload_n 1, 1) := by decide +kernel
theorem dX6_bound_1 : decode cX6_bound 1 = .ok (.lload_n 3, 1) := by decide +kernel
theorem dX6_bound_2 : decode cX6_bound 2 = .ok (.lcmp, 1) := by decide +kernel
theorem dX6_bound_3 : decode cX6_bound 3 = .ok (.ifCond .gt 27, 3) := by decide +kernel
theorem dX6_bound_6 : decode cX6_bound 6 = .ok (.lload_n 3, 1) := by decide +kernel
theorem dX6_bound_7 : decode cX6_bound 7 = .ok (.lload 5, 2) := by decide +kernel
theorem dX6_bound_9 : decode cX6_bound 9 = .ok (.lcmp, 1) := by decide +kernel
theorem dX6_bound_10 : decode cX6_bound 10 = .ok (.ifCond .gt 20, 3) := by decide +kernel
theorem dX6_bound_13 : decode cX6_bound 13 = .ok (.lload_n 1, 1) := by decide +kernel
theorem dX6_bound_14 : decode cX6_bound 14 = .ok (.lload_n 3, 1) := by decide +kernel
theorem dX6_bound_15 : decode cX6_bound 15 = .ok (.invokestatic 99, 3) := by decide +kernel
theorem dX6_bound_18 : decode cX6_bound 18 = .ok (.ifCond .ne 12, 3) := by decide +kernel
theorem dX6_bound_21 : decode cX6_bound 21 = .ok (.lload_n 3, 1) := by decide +kernel
theorem dX6_bound_22 : decode cX6_bound 22 = .ok (.lload 5, 2) := by decide +kernel
theorem dX6_bound_24 : decode cX6_bound 24 = .ok (.invokestatic 99, 3) := by decide +kernel
theorem dX6_bound_27 : decode cX6_bound 27 = .ok (.ifCond .eq 9, 3) := by decide +kernel
theorem dX6_bound_30 : decode cX6_bound 30 = .ok (.aload_n 0, 1) := by decide +kernel
theorem dX6_bound_31 : decode cX6_bound 31 = .ok (.iconst 1, 1) := by decide +kernel
theorem dX6_bound_32 : decode cX6_bound 32 = .ok (.invokevirtual 103, 3) := by decide +kernel
theorem dX6_bound_35 : decode cX6_bound 35 = .ok (.ireturn, 1) := by decide +kernel
theorem dX6_bound_36 : decode cX6_bound 36 = .ok (.lconst 0, 1) := by decide +kernel
theorem dX6_bound_37 : decode cX6_bound 37 = .ok (.lstore 7, 2) := by decide +kernel
theorem dX6_bound_39 : decode cX6_bound 39 = .ok (.iconst 0, 1) := by decide +kernel
theorem dX6_bound_40 : decode cX6_bound 40 = .ok (.istore 9, 2) := by decide +kernel
theorem dX6_bound_42 : decode cX6_bound 42 = .ok (.iload 9, 2) := by decide +kernel
theorem dX6_bound_44 : decode cX6_bound 44 = .ok (.bipush 6, 2) := by decide +kernel
theorem dX6_bound_46 : decode cX6_bound 46 = .ok (.if_icmp .ge 34, 3) := by decide +kernel
theorem dX6_bound_49 : decode cX6_bound 49 = .ok (.lload 7, 2) := by decide +kernel
theorem dX6_bound_51 : decode cX6_bound 51 = .ok (.aload_n 0, 1) := by decide +kernel
theorem dX6_bound_52 : decode cX6_bound 52 = .ok (.iload 9, 2) := by decide +kernel
theorem dX6_bound_54 : decode cX6_bound 54 = .ok (.invokevirtual 91, 3) := by decide +kernel
theorem dX6_bound_57 : decode cX6_bound 57 = .ok (.ifCond .eq 13, 3) := by decide +kernel
theorem dX6_bound_60 : decode cX6_bound 60 = .ok (.aload_n 0, 1) := by decide +kernel
theorem dX6_bound_61 : decode cX6_bound 61 = .ok (.getfield 22, 3) := by decide +kernel
theorem dX6_bound_64 : decode cX6_bound 64 = .ok (.iload 9, 2) := by decide +kernel
theorem dX6_bound_66 : decode cX6_bound 66 = .ok (.laload, 1) := by decide +kernel
theorem dX6_bound_67 : decode cX6_bound 67 = .ok (.goto 4, 3) := by decide +kernel
theorem dX6_bound_70 : decode cX6_bound 70 = .ok (.lconst 0, 1) := by decide +kernel
theorem dX6_bound_71 : decode cX6_bound 71 = .ok (.ladd, 1) := by decide +kernel
theorem dX6_bound_72 : decode cX6_bound 72 = .ok (.lstore 7, 2) := by decide +kernel
theorem dX6_bound_74 : decode cX6_bound 74 = .ok (.iinc 9 1, 3) := by decide +kernel
theorem dX6_bound_77 : decode cX6_bound 77 = .ok (.goto (-35), 3) := by decide +kernel
theorem dX6_bound_80 : decode cX6_bound 80 = .ok (.lload 7, 2) := by decide +kernel
theorem dX6_bound_82 : decode cX6_bound 82 = .ok (.lconst 0, 1) := by decide +kernel
theorem dX6_bound_83 : decode cX6_bound 83 = .ok (.lcmp, 1) := by decide +kernel
theorem dX6_bound_84 : decode cX6_bound 84 = .ok (.ifCond .ne 9, 3) := by decide +kernel
theorem dX6_bound_87 : decode cX6_bound 87 = .ok (.aload_n 0, 1) := by decide +kernel
theorem dX6_bound_88 : decode cX6_bound 88 = .ok (.iconst 2, 1) := by decide +kernel
theorem dX6_bound_89 : decode cX6_bound 89 = .ok (.invokevirtual 103, 3) := by decide +kernel
theorem dX6_bound_92 : decode cX6_bound 92 = .ok (.ireturn, 1) := by decide +kernel
theorem dX6_bound_93 : decode cX6_bound 93 = .ok (.aload_n 0, 1) := by decide +kernel
theorem dX6_bound_94 : decode cX6_bound 94 = .ok (.getfield 88, 3) := by decide +kernel
theorem dX6_bound_97 : decode cX6_bound 97 = .ok (.bipush 6, 2) := by decide +kernel
theorem dX6_bound_99 : decode cX6_bound 99 = .ok (.if_icmp .ne 9, 3) := by decide +kernel
theorem dX6_bound_102 : decode cX6_bound 102 = .ok (.aload_n 0, 1) := by decide +kernel
theorem dX6_bound_103 : decode cX6_bound 103 = .ok (.iconst 3, 1) := by decide +kernel
theorem dX6_bound_104 : decode cX6_bound 104 = .ok (.invokevirtual 103, 3) := by decide +kernel
theorem dX6_bound_107 : decode cX6_bound 107 = .ok (.ireturn, 1) := by decide +kernel
theorem dX6_bound_108 : decode cX6_bound 108 = .ok (.aload_n 0, 1) := by decide +kernel
theorem dX6_bound_109 : decode cX6_bound 109 = .ok (.iconst 0, 1) := by decide +kernel
theorem dX6_bound_110 : decode cX6_bound 110 = .ok (.putfield 78, 3) := by decide +kernel
theorem dX6_bound_113 : decode cX6_bound 113 = .ok (.aload_n 0, 1) := by decide +kernel
theorem dX6_bound_114 : decode cX6_bound 114 = .ok (.getfield 7, 3) := by decide +kernel
theorem dX6_bound_117 : decode cX6_bound 117 = .ok (.aload_n 0, 1) := by decide +kernel
theorem dX6_bound_118 : decode cX6_bound 118 = .ok (.getfield 88, 3) := by decide +kernel
theorem dX6_bound_121 : decode cX6_bound 121 = .ok (.lload_n 1, 1) := by decide +kernel
theorem dX6_bound_122 : decode cX6_bound 122 = .ok (.lastore, 1) := by decide +kernel
theorem dX6_bound_123 : decode cX6_bound 123 = .ok (.aload_n 0, 1) := by decide +kernel
theorem dX6_bound_124 : decode cX6_bound 124 = .ok (.getfield 13, 3) := by decide +kernel
theorem dX6_bound_127 : decode cX6_bound 127 = .ok (.aload_n 0, 1) := by decide +kernel
theorem dX6_bound_128 : decode cX6_bound 128 = .ok (.getfield 88, 3) := by decide +kernel
theorem dX6_bound_131 : decode cX6_bound 131 = .ok (.lload_n 3, 1) := by decide +kernel
theorem dX6_bound_132 : decode cX6_bound 132 = .ok (.lastore, 1) := by decide +kernel
theorem dX6_bound_133 : decode cX6_bound 133 = .ok (.aload_n 0, 1) := by decide +kernel
theorem dX6_bound_134 : decode cX6_bound 134 = .ok (.getfield 16, 3) := by decide +kernel
theorem dX6_bound_137 : decode cX6_bound 137 = .ok (.aload_n 0, 1) := by decide +kernel
theorem dX6_bound_138 : decode cX6_bound 138 = .ok (.getfield 88, 3) := by decide +kernel
theorem dX6_bound_141 : decode cX6_bound 141 = .ok (.lload 5, 2) := by decide +kernel
theorem dX6_bound_143 : decode cX6_bound 143 = .ok (.lastore, 1) := by decide +kernel
theorem dX6_bound_144 : decode cX6_bound 144 = .ok (.iconst 0, 1) := by decide +kernel
theorem dX6_bound_145 : decode cX6_bound 145 = .ok (.istore 9, 2) := by decide +kernel
theorem dX6_bound_147 : decode cX6_bound 147 = .ok (.iload 9, 2) := by decide +kernel
theorem dX6_bound_149 : decode cX6_bound 149 = .ok (.iconst 2, 1) := by decide +kernel
theorem dX6_bound_150 : decode cX6_bound 150 = .ok (.if_icmp .ge 68, 3) := by decide +kernel
theorem dX6_bound_153 : decode cX6_bound 153 = .ok (.aload_n 0, 1) := by decide +kernel
theorem dX6_bound_154 : decode cX6_bound 154 = .ok (.iload 9, 2) := by decide +kernel
theorem dX6_bound_156 : decode cX6_bound 156 = .ok (.ifCond .ne 9, 3) := by decide +kernel
theorem dX6_bound_159 : decode cX6_bound 159 = .ok (.lload_n 3, 1) := by decide +kernel
theorem dX6_bound_160 : decode cX6_bound 160 = .ok (.lload_n 1, 1) := by decide +kernel
theorem dX6_bound_161 : decode cX6_bound 161 = .ok (.lsub, 1) := by decide +kernel
theorem dX6_bound_162 : decode cX6_bound 162 = .ok (.goto 7, 3) := by decide +kernel
theorem dX6_bound_165 : decode cX6_bound 165 = .ok (.lload 5, 2) := by decide +kernel
theorem dX6_bound_167 : decode cX6_bound 167 = .ok (.lload_n 3, 1) := by decide +kernel
theorem dX6_bound_168 : decode cX6_bound 168 = .ok (.lsub, 1) := by decide +kernel
theorem dX6_bound_169 : decode cX6_bound 169 = .ok (.iconst 0, 1) := by decide +kernel
theorem dX6_bound_170 : decode cX6_bound 170 = .ok (.invokevirtual 107, 3) := by decide +kernel
theorem dX6_bound_173 : decode cX6_bound 173 = .ok (.iconst 0, 1) := by decide +kernel
theorem dX6_bound_174 : decode cX6_bound 174 = .ok (.istore 10, 2) := by decide +kernel
theorem dX6_bound_176 : decode cX6_bound 176 = .ok (.iload 10, 2) := by decide +kernel
theorem dX6_bound_178 : decode cX6_bound 178 = .ok (.bipush 6, 2) := by decide +kernel
theorem dX6_bound_180 : decode cX6_bound 180 = .ok (.if_icmp .ge 32, 3) := by decide +kernel
theorem dX6_bound_183 : decode cX6_bound 183 = .ok (.aload_n 0, 1) := by decide +kernel
theorem dX6_bound_184 : decode cX6_bound 184 = .ok (.getfield 19, 3) := by decide +kernel
theorem dX6_bound_187 : decode cX6_bound 187 = .ok (.aload_n 0, 1) := by decide +kernel
theorem dX6_bound_188 : decode cX6_bound 188 = .ok (.getfield 88, 3) := by decide +kernel
theorem dX6_bound_191 : decode cX6_bound 191 = .ok (.iload 9, 2) := by decide +kernel
theorem dX6_bound_193 : decode cX6_bound 193 = .ok (.iload 10, 2) := by decide +kernel
theorem dX6_bound_195 : decode cX6_bound 195 = .ok (.invokestatic 111, 3) := by decide +kernel
theorem dX6_bound_198 : decode cX6_bound 198 = .ok (.aload_n 0, 1) := by decide +kernel
theorem dX6_bound_199 : decode cX6_bound 199 = .ok (.getfield 69, 3) := by decide +kernel
theorem dX6_bound_202 : decode cX6_bound 202 = .ok (.iload 10, 2) := by decide +kernel
theorem dX6_bound_204 : decode cX6_bound 204 = .ok (.laload, 1) := by decide +kernel
theorem dX6_bound_205 : decode cX6_bound 205 = .ok (.lastore, 1) := by decide +kernel
theorem dX6_bound_206 : decode cX6_bound 206 = .ok (.iinc 10 1, 3) := by decide +kernel
theorem dX6_bound_209 : decode cX6_bound 209 = .ok (.goto (-33), 3) := by decide +kernel
theorem dX6_bound_212 : decode cX6_bound 212 = .ok (.iinc 9 1, 3) := by decide +kernel
theorem dX6_bound_215 : decode cX6_bound 215 = .ok (.goto (-68), 3) := by decide +kernel
theorem dX6_bound_218 : decode cX6_bound 218 = .ok (.aload_n 0, 1) := by decide +kernel
theorem dX6_bound_219 : decode cX6_bound 219 = .ok (.dup, 1) := by decide +kernel
theorem dX6_bound_220 : decode cX6_bound 220 = .ok (.getfield 88, 3) := by decide +kernel
theorem dX6_bound_223 : decode cX6_bound 223 = .ok (.iconst 1, 1) := by decide +kernel
theorem dX6_bound_224 : decode cX6_bound 224 = .ok (.iadd, 1) := by decide +kernel
theorem dX6_bound_225 : decode cX6_bound 225 = .ok (.putfield 88, 3) := by decide +kernel
theorem dX6_bound_228 : decode cX6_bound 228 = .ok (.aload_n 0, 1) := by decide +kernel
theorem dX6_bound_229 : decode cX6_bound 229 = .ok (.getfield 88, 3) := by decide +kernel
theorem dX6_bound_232 : decode cX6_bound 232 = .ok (.iconst 1, 1) := by decide +kernel
theorem dX6_bound_233 : decode cX6_bound 233 = .ok (.isub, 1) := by decide +kernel
theorem dX6_bound_234 : decode cX6_bound 234 = .ok (.ireturn, 1) := by decide +kernel

set_option maxHeartbeats 600000 in
set_option maxRecDepth 100000 in
theorem kX6_bound (l : Launch) (dC : Nat → ClassId) (dI : Nat → Nat → Nat) (ca : Nat → ClassId) (ad : Nat → Nat) (S : sSt) (lo : Int64) (vv : Int64) (hh : Int64) (nb : Nat) (nr : Nat) (hb6 : nb ≤ 6) (hr2 : nr ≤ 200) (hmi : MI nb nr S) (hbh : mbH S nb lo vv hh) : ct_I l yX6_bound (Cond.code yX6_bound cX6_bound 11 (some .int) :: wa_T) ({ frames := 3, cells := 0, slots := 0, locals := 76 } : Room) (dC, dI) vwCl (tyl ca) (wq ca ad) S [.ref (ad 0), .long lo, .long vv, .long hh] (fun r S2 => r = (mbdF S nb lo vv hh).1 ∧ S2 = (mbdF S nb lo vv hh).2) := by
  refine ct_ofI (by decide) (Nat.le_of_ble_eq_true rfl) ?_
  intro p e s m below meth c A ls hx hb hr hml hts hown hlocks hK hA hw hl
  have hl : lv_has ls 11 [(0, .ref (ad 0)), (1, .long lo), (3, .long vv), (5, .long hh)] := hl
  refine lv_lload_n hx hb dX6_bound_0 rfl (lv_at hl 1 rfl) ?_
  refine lv_lload_n hx hb dX6_bound_1 rfl (lv_at hl 2 rfl) ?_
  refine lc_gt (tgt := 30) hx hb dX6_bound_2 dX6_bound_3 (by decide) (fun c_1 => ?_) (fun c_1 => ?_)
  · skip
    refine lv_aload_n hx hb dX6_bound_30 rfl (lv_at hl 0 rfl) ?_
    refine lv_iconst (v := nI 1) hx hb dX6_bound_31 (by decide) ?_
    refine wo_vI (As := [.int (nI 1)]) (rest := []) (kX6_raise l dC dI ca ad S (nI 1)) ⟨hx, hb, hml, hown, hts⟩ (cwV 1 hts (wa_gV wd_672 wd_674 ws_14 wd_8 wd_675) rfl rfl rfl (by decide +kernel) ⟨Nat.le_of_ble_eq_true rfl, Nat.le_of_ble_eq_true rfl⟩) hK hw hA 0 rfl rfl rfl rfl hl.1 rfl (Nat.le_of_ble_eq_true rfl) dX6_bound_32 ⟨Nat.zero_le _, Nat.zero_le _⟩ (fun r_2 S_2 H locs hp_2 hw => ?_)
    have e9 := hp_2.1.symm
    subst e9
    have e9 := hp_2.2.symm
    subst e9
    exact ct_iret (S := sI S 0 0 (nI 1)) (v := nI 0) hx hb hr hlocks hK hw (⟨by simp only [mbdF, mbG, c_1, decide_true, decide_false, Bool.not_true, Bool.not_false, Bool.true_and, Bool.and_true, Bool.false_and, Bool.and_false, Bool.or_true, Bool.true_or, Bool.or_false, Bool.false_or, Bool.false_eq_true, Bool.true_eq_false, if_true, if_false, ↓reduceIte], by simp only [mbdF, mbG, c_1, decide_true, decide_false, Bool.not_true, Bool.not_false, Bool.true_and, Bool.and_true, Bool.false_and, Bool.and_false, Bool.or_true, Bool.true_or, Bool.or_false, Bool.false_or, Bool.false_eq_true, Bool.true_eq_false, if_true, if_false, ↓reduceIte]⟩) dX6_bound_35
  · skip
    refine lv_lload_n hx hb dX6_bound_6 rfl (lv_at hl 2 rfl) ?_
    refine lv_lload hx hb dX6_bound_7 (lv_at hl 3 rfl) ?_
    refine lc_gt (tgt := 30) hx hb dX6_bound_9 dX6_bound_10 (by decide) (fun c_3 => ?_) (fun c_3 => ?_)
    · skip
      refine lv_aload_n hx hb dX6_bound_30 rfl (lv_at hl 0 rfl) ?_
      refine lv_iconst (v := nI 1) hx hb dX6_bound_31 (by decide) ?_
      refine wo_vI (As := [.int (nI 1)]) (rest := []) (kX6_raise l dC dI ca ad S (nI 1)) ⟨hx, hb, hml, hown, hts⟩ (cwV 1 hts (wa_gV wd_672 wd_674 ws_14 wd_8 wd_675) rfl rfl rfl (by decide +kernel) ⟨Nat.le_of_ble_eq_true rfl, Nat.le_of_ble_eq_true rfl⟩) hK hw hA 0 rfl rfl rfl rfl hl.1 rfl (Nat.le_of_ble_eq_true rfl) dX6_bound_32 ⟨Nat.zero_le _, Nat.zero_le _⟩ (fun r_4 S_4 H locs hp_4 hw => ?_)
      have e9 := hp_4.1.symm
      subst e9
      have e9 := hp_4.2.symm
      subst e9
      exact ct_iret (S := sI S 0 0 (nI 1)) (v := nI 0) hx hb hr hlocks hK hw (⟨by simp only [mbdF, mbG, c_1, c_3, decide_true, decide_false, Bool.not_true, Bool.not_false, Bool.true_and, Bool.and_true, Bool.false_and, Bool.and_false, Bool.or_true, Bool.true_or, Bool.or_false, Bool.false_or, Bool.false_eq_true, Bool.true_eq_false, if_true, if_false, ↓reduceIte], by simp only [mbdF, mbG, c_1, c_3, decide_true, decide_false, Bool.not_true, Bool.not_false, Bool.true_and, Bool.and_true, Bool.false_and, Bool.and_false, Bool.or_true, Bool.true_or, Bool.or_false, Bool.false_or, Bool.false_eq_true, Bool.true_eq_false, if_true, if_false, ↓reduceIte]⟩) dX6_bound_35
    · skip
      refine lv_lload_n hx hb dX6_bound_13 rfl (lv_at hl 1 rfl) ?_
      refine lv_lload_n hx hb dX6_bound_14 rfl (lv_at hl 2 rfl) ?_
      refine wo_sI (As := [.long lo, .long vv]) (rest := []) (kX6_isTooGreat l dC dI ca ad S lo vv) ⟨hx, hb, hml, hown, hts⟩ (va_cwS 2 hts (wa_gS wd_668 wd_669 wd_8 wd_670) rfl rfl rfl (by decide +kernel) ⟨Nat.le_of_ble_eq_true rfl, Nat.le_of_ble_eq_true rfl⟩) hK hw hA rfl hl.1 rfl (Nat.le_of_ble_eq_true rfl) dX6_bound_15 ⟨Nat.zero_le _, Nat.zero_le _⟩ (fun r_5 S_5 H locs hp_5 hw => ?_)
      have e9 := hp_5.1.symm
      subst e9
      have e9 := hp_5.2.symm
      subst e9
      refine lv_if_ne (tgt := 30) hx hb dX6_bound_18 (by decide) (fun c_6 => ?_) (fun c_6 => ?_)
      · skip
        have c_6 : mtg lo vv = true := nb_1 c_6
        refine lv_aload_n hx hb dX6_bound_30 rfl (lv_at hl 0 rfl) ?_
        refine lv_iconst (v := nI 1) hx hb dX6_bound_31 (by decide) ?_
        refine wo_vI (As := [.int (nI 1)]) (rest := []) (kX6_raise l dC dI ca ad S (nI 1)) ⟨hx, hb, hml, hown, hts⟩ (cwV 1 hts (wa_gV wd_672 wd_674 ws_14 wd_8 wd_675) rfl rfl rfl (by decide +kernel) ⟨Nat.le_of_ble_eq_true rfl, Nat.le_of_ble_eq_true rfl⟩) hK hw hA 0 rfl rfl rfl rfl hl.1 rfl (Nat.le_of_ble_eq_true rfl) dX6_bound_32 ⟨Nat.zero_le _, Nat.zero_le _⟩ (fun r_7 S_7 H locs hp_7 hw => ?_)
        have e9 := hp_7.1.symm
        subst e9
        have e9 := hp_7.2.symm
        subst e9
        exact ct_iret (S := sI S 0 0 (nI 1)) (v := nI 0) hx hb hr hlocks hK hw (⟨by simp only [mbdF, mbG, c_1, c_3, c_6, decide_true, decide_false, Bool.not_true, Bool.not_false, Bool.true_and, Bool.and_true, Bool.false_and, Bool.and_false, Bool.or_true, Bool.true_or, Bool.or_false, Bool.false_or, Bool.false_eq_true, Bool.true_eq_false, if_true, if_false, ↓reduceIte], by simp only [mbdF, mbG, c_1, c_3, c_6, decide_true, decide_false, Bool.not_true, Bool.not_false, Bool.true_and, Bool.and_true, Bool.false_and, Bool.and_false, Bool.or_true, Bool.true_or, Bool.or_false, Bool.false_or, Bool.false_eq_true, Bool.true_eq_false, if_true, if_false, ↓reduceIte]⟩) dX6_bound_35
      · skip
        have c_6 : mtg lo vv = false := nb_0 c_6
        refine lv_lload_n hx hb dX6_bound_21 rfl (lv_at hl 2 rfl) ?_
        refine lv_lload hx hb dX6_bound_22 (lv_at hl 3 rfl) ?_
        refine wo_sI (As := [.long vv, .long hh]) (rest := []) (kX6_isTooGreat l dC dI ca ad S vv hh) ⟨hx, hb, hml, hown, hts⟩ (va_cwS 2 hts (wa_gS wd_668 wd_669 wd_8 wd_670) rfl rfl rfl (by decide +kernel) ⟨Nat.le_of_ble_eq_true rfl, Nat.le_of_ble_eq_true rfl⟩) hK hw hA rfl hl.1 rfl (Nat.le_of_ble_eq_true rfl) dX6_bound_24 ⟨Nat.zero_le _, Nat.zero_le _⟩ (fun r_8 S_8 H locs hp_8 hw => ?_)
        have e9 := hp_8.1.symm
        subst e9
        have e9 := hp_8.2.symm
        subst e9
        refine lv_if_eq (tgt := 36) hx hb dX6_bound_27 (by decide) (fun c_9 => ?_) (fun c_9 => ?_)
        · skip
          have c_9 : mtg vv hh = false := nb_0 c_9
          have hG : mbG lo vv hh = true := by simp only [mbG, c_1, c_3, c_6, c_9, decide_true, decide_false, Bool.not_true, Bool.not_false, Bool.true_and, Bool.and_true, Bool.false_and, Bool.and_false, Bool.or_true, Bool.true_or, Bool.or_false, Bool.false_or, Bool.false_eq_true, Bool.true_eq_false, if_true, if_false, ↓reduceIte]
          refine lv_lconst (v := 0) hx hb dX6_bound_36 (by decide) ?_
          refine lv_lstore (lv' := [(7, .long 0), (0, .ref (ad 0)), (1, .long lo), (3, .long vv), (5, .long hh)]) hx hb dX6_bound_37 hl (by decide) rfl (fun ls hl => ?_)
          refine lv_iconst (v := nI 0) hx hb dX6_bound_39 (by decide) ?_
          refine lv_istore (lv' := [(9, .int (nI 0)), (7, .long 0), (0, .ref (ad 0)), (1, .long lo), (3, .long vv), (5, .long hh)]) hx hb dX6_bound_40 hl (by decide) rfl (fun ls hl => ?_)
          have lp_42 : ∀ (n : Nat) (i : Nat), i ≤ 6 → 7 ≤ i + n → ∀ (H : Heap) (locs : List Loc) (ls : Array Slot), wo_w (dC, dI) vwCl A s.heap (wq ca ad S) H locs → lv_has ls 11 [(0, .ref (ad 0)), (1, .long lo), (3, .long vv), (5, .long hh), (7, .long (mall S false i)), (9, .int (nI i))] → W p l e ({ frames := 3, cells := 0, slots := 0, locals := 76 } : Room) s m ([.ref (ad 0), .long lo, .long vv, .long hh] : List Value).toArray below meth c H locs 0 0 (MQ below (va_Qi (fun r S2 => r = (mbdF S nb lo vv hh).1 ∧ S2 = (mbdF S nb lo vv hh).2) (ct_B (dC, dI) vwCl (tyl ca) (wq ca ad) A) A) ([.ref (ad 0), .long lo, .long vv, .long hh] : List Value).toArray s 0 0 A) (F0 m 42 ls []) := by
            intro n
            induction n with
            | zero =>
              intro i hi hn
              exfalso
              omega
            | succ n ih_42 =>
              intro i hi hn H locs ls hw hl
              refine lv_iload hx hb dX6_bound_42 (lv_at hl 5 rfl) ?_
              refine lv_bipush (v := nI 6) hx hb dX6_bound_44 (by decide) ?_
              refine lv_icmp_ge (tgt := 80) hx hb dX6_bound_46 (by decide) (fun c_10 => ?_) (fun c_10 => ?_)
              · skip
                have c_10 : 6 ≤ i := (nI_leI (a := 6) (b := i) (by omega) (by omega)).mp c_10
                obtain rfl : 6 = i := by omega
                refine lv_lload hx hb dX6_bound_80 (lv_at hl 4 rfl) ?_
                refine lv_lconst (v := 0) hx hb dX6_bound_82 (by decide) ?_
                refine lc_ne (tgt := 93) hx hb dX6_bound_83 dX6_bound_84 (by decide) (fun c_11 => ?_) (fun c_11 => ?_)
                · skip
                  have hne0 := c_11
                  refine lv_aload_n hx hb dX6_bound_93 rfl (lv_at hl 0 rfl) ?_
                  refine wo_get hx hb hts inX6 hown hK hw 0 rfl rfl 1 (by decide) (hts _ wd_566) (fun _ h9 => h9) rfl dX6_bound_94 ?_
                  refine tp_i (y := nI nb) (hmi.2.1) ?_
                  refine lv_bipush (v := nI 6) hx hb dX6_bound_97 (by decide) ?_
                  refine lv_icmp_ne (tgt := 108) hx hb dX6_bound_99 (by decide) (fun c_12 => ?_) (fun c_12 => ?_)
                  · skip
                    have c_12 : ¬ (nb = 6) := fun h9 => c_12 ((nI_eq (a := nb) (b := 6) (by omega) (by omega)).mpr h9)
                    have hn6 := c_12
                    refine lv_aload_n hx hb dX6_bound_108 rfl (lv_at hl 0 rfl) ?_
                    refine lv_iconst (v := nI 0) hx hb dX6_bound_109 (by decide) ?_
                    refine wo_put (ty := .int) (v := .int (nI 0)) hx hb hts inX6 tyX6 tyX6_ok nmX6 hown hK hw 0 rfl rfl 0 (by decide) (hts _ wd_565) (fun _ h9 => h9) rfl (by decide +kernel) rfl rfl (Nat.le_of_ble_eq_true rfl) (sg_0 ca ad S (nI 0)) dX6_bound_110 (fun H locs hw => ?_)
                    refine lv_aload_n hx hb dX6_bound_113 rfl (lv_at hl 0 rfl) ?_
                    refine wo_get hx hb hts inX6 hown hK hw 0 rfl rfl 2 (by decide) (hts _ wd_567) (fun _ h9 => h9) rfl dX6_bound_114 ?_
                    refine lv_aload_n hx hb dX6_bound_117 rfl (lv_at hl 0 rfl) ?_
                    refine wo_get hx hb hts inX6 hown hK hw 0 rfl rfl 1 (by decide) (hts _ wd_566) (fun _ h9 => h9) rfl dX6_bound_118 ?_
                    refine tp_i (y := nI nb) (hmi.2.1) ?_
                    refine lv_lload_n hx hb dX6_bound_121 rfl (lv_at hl 1 rfl) ?_
                    refine wo_last hx hb hK hw 1 1 rfl rfl nb rfl (by first | assumption | omega) (by decide) (sm_1 ca ad (sI S 0 0 (nI 0)) nb lo) dX6_bound_122 (fun H locs hw => ?_)
                    refine lv_aload_n hx hb dX6_bound_123 rfl (lv_at hl 0 rfl) ?_
                    refine wo_get hx hb hts inX6 hown hK hw 0 rfl rfl 3 (by decide) (hts _ wd_568) (fun _ h9 => h9) rfl dX6_bound_124 ?_
                    refine lv_aload_n hx hb dX6_bound_127 rfl (lv_at hl 0 rfl) ?_
                    refine wo_get hx hb hts inX6 hown hK hw 0 rfl rfl 1 (by decide) (hts _ wd_566) (fun _ h9 => h9) rfl dX6_bound_128 ?_
                    refine tp_i (y := nI nb) (hmi.2.1) ?_
                    refine lv_lload_n hx hb dX6_bound_131 rfl (lv_at hl 2 rfl) ?_
                    refine wo_last hx hb hK hw 2 1 rfl rfl nb rfl (by first | assumption | omega) (by decide) (sm_2 ca ad (sL (sI S 0 0 (nI 0)) 1 nb lo) nb vv) dX6_bound_132 (fun H locs hw => ?_)
                    refine lv_aload_n hx hb dX6_bound_133 rfl (lv_at hl 0 rfl) ?_
                    refine wo_get hx hb hts inX6 hown hK hw 0 rfl rfl 4 (by decide) (hts _ wd_569) (fun _ h9 => h9) rfl dX6_bound_134 ?_
                    refine lv_aload_n hx hb dX6_bound_137 rfl (lv_at hl 0 rfl) ?_
                    refine wo_get hx hb hts inX6 hown hK hw 0 rfl rfl 1 (by decide) (hts _ wd_566) (fun _ h9 => h9) rfl dX6_bound_138 ?_
                    refine tp_i (y := nI nb) (hmi.2.1) ?_
                    refine lv_lload hx hb dX6_bound_141 (lv_at hl 3 rfl) ?_
                    refine wo_last hx hb hK hw 3 1 rfl rfl nb rfl (by first | assumption | omega) (by decide) (sm_3 ca ad (sL (sL (sI S 0 0 (nI 0)) 1 nb lo) 2 nb vv) nb hh) dX6_bound_143 (fun H locs hw => ?_)
                    have hw : wo_w (dC, dI) vwCl A s.heap (wq ca ad (mb0 S nb lo vv hh)) H locs := hw
                    have hnb : nb < 6 := by omega
                    have hsp := hbh hG hne0 hnb
                    have hcb : ∀ j, (mbs (mb0 S nb lo vv hh) nb lo vv hh j).1 0 1 = nI nb := fun j => by rw [mbs_q _ _ _ _ _ 0 (by omega)]; exact hmi.2.1
                    refine lv_iconst (v := nI 0) hx hb dX6_bound_144 (by decide) ?_
                    refine lv_istore (lv' := [(9, .int (nI 0)), (0, .ref (ad 0)), (1, .long lo), (3, .long vv), (5, .long hh), (7, .long (mall S false 6))]) hx hb dX6_bound_145 hl (by decide) rfl (fun ls hl => ?_)
                    have lp_147 : ∀ (n : Nat) (j : Nat), j ≤ 2 → 3 ≤ j + n → ∀ (H : Heap) (locs : List Loc) (ls : Array Slot), wo_w (dC, dI) vwCl A s.heap (wq ca ad (mbs (mb0 S nb lo vv hh) nb lo vv hh j)) H locs → lv_has ls 11 [(0, .ref (ad 0)), (1, .long lo), (3, .long vv), (5, .long hh), (9, .int (nI j))] → W p l e ({ frames := 3, cells := 0, slots := 0, locals := 76 } : Room) s m ([.ref (ad 0), .long lo, .long vv, .long hh] : List Value).toArray below meth c H locs 0 0 (MQ below (va_Qi (fun r S2 => r = (mbdF S nb lo vv hh).1 ∧ S2 = (mbdF S nb lo vv hh).2) (ct_B (dC, dI) vwCl (tyl ca) (wq ca ad) A) A) ([.ref (ad 0), .long lo, .long vv, .long hh] : List Value).toArray s 0 0 A) (F0 m 147 ls []) := by
                      intro n
                      induction n with
                      | zero =>
                        intro j hj hn
                        exfalso
                        omega
                      | succ n ih_147 =>
                        intro j hj hn H locs ls hw hl
                        refine lv_iload hx hb dX6_bound_147 (lv_at hl 4 rfl) ?_
                        refine lv_iconst (v := nI 2) hx hb dX6_bound_149 (by decide) ?_
                        refine lv_icmp_ge (tgt := 218) hx hb dX6_bound_150 (by decide) (fun c_13 => ?_) (fun c_13 => ?_)
                        · skip
                          have c_13 : 2 ≤ j := (nI_leI (a := 2) (b := j) (by omega) (by omega)).mp c_13
                          obtain rfl : 2 = j := by omega
                          refine lv_aload_n hx hb dX6_bound_218 rfl (lv_at hl 0 rfl) ?_
                          refine lv_dup hx hb dX6_bound_219 rfl ?_
                          refine wo_get hx hb hts inX6 hown hK hw 0 rfl rfl 1 (by decide) (hts _ wd_566) (fun _ h9 => h9) rfl dX6_bound_220 ?_
                          refine tp_i (y := nI nb) (hcb 2) ?_
                          refine lv_iconst (v := nI 1) hx hb dX6_bound_223 (by decide) ?_
                          refine lv_iadd hx hb dX6_bound_224 ?_
                          refine tp_i (nI_add nb 1) ?_
                          refine wo_put (ty := .int) (v := .int (nI (nb + 1))) hx hb hts inX6 tyX6 tyX6_ok nmX6 hown hK hw 0 rfl rfl 1 (by decide) (hts _ wd_566) (fun _ h9 => h9) rfl (by decide +kernel) rfl rfl (Nat.le_of_ble_eq_true rfl) (sg_1 ca ad (mbs (mb0 S nb lo vv hh) nb lo vv hh 2) (nI (nb + 1))) dX6_bound_225 (fun H locs hw => ?_)
                          refine lv_aload_n hx hb dX6_bound_228 rfl (lv_at hl 0 rfl) ?_
                          refine wo_get hx hb hts inX6 hown hK hw 0 rfl rfl 1 (by decide) (hts _ wd_566) (fun _ h9 => h9) rfl dX6_bound_229 ?_
                          refine tp_i (y := nI (nb + 1)) (rfl) ?_
                          refine lv_iconst (v := nI 1) hx hb dX6_bound_232 (by decide) ?_
                          refine lv_isub hx hb dX6_bound_233 ?_
                          refine tp_i (pk_sub (a := nb + 1) (b := 1) (by omega)) ?_
                          exact ct_iret (S := sI (mbs (mb0 S nb lo vv hh) nb lo vv hh 2) 0 1 (nI (nb + 1))) (v := nI ((nb + 1) - 1)) hx hb hr hlocks hK hw (⟨by simp only [mbdF, mbdR, hG, hne0, hn6, ↓reduceIte]; rfl, by simp only [mbdF, mbdR, hG, hne0, hn6, ↓reduceIte]⟩) dX6_bound_234
                        · skip
                          have c_13 : ¬ (2 ≤ j) := fun h9 => c_13 ((nI_leI (a := 2) (b := j) (by omega) (by omega)).mpr h9)
                          refine lv_aload_n hx hb dX6_bound_153 rfl (lv_at hl 0 rfl) ?_
                          refine lv_iload hx hb dX6_bound_154 (lv_at hl 4 rfl) ?_
                          refine lv_if_ne (tgt := 165) hx hb dX6_bound_156 (by decide) (fun c_14 => ?_) (fun c_14 => ?_)
                          · skip
                            have c_14 : ¬ (j = 0) := fun h9 => c_14 ((nI_eq (a := j) (b := 0) (by omega) (by omega)).mpr h9)
                            have hm : mbr lo vv hh j = hh - vv := if_neg c_14
                            refine lv_lload hx hb dX6_bound_165 (lv_at hl 3 rfl) ?_
                            refine lv_lload_n hx hb dX6_bound_167 rfl (lv_at hl 2 rfl) ?_
                            refine lv_lsub hx hb dX6_bound_168 ?_
                            refine lv_iconst (v := nI 0) hx hb dX6_bound_169 (by decide) ?_
                            refine wo_vV (As := [.long (hh - vv), .int (nI 0)]) (rest := []) (kX6_split l dC dI ca ad (mbs (mb0 S nb lo vv hh) nb lo vv hh j) (hh - vv) false (hsp j (by omega)).1 (by have h9 := (hsp j (by omega)).2; rw [hm] at h9; exact h9)) ⟨hx, hb, hml, hown, hts⟩ (cwV 2 hts (wa_gV wd_676 wd_678 ws_15 wd_8 wd_679) rfl rfl rfl (by decide +kernel) ⟨Nat.le_of_ble_eq_true rfl, Nat.le_of_ble_eq_true rfl⟩) hK hw hA 0 rfl rfl rfl rfl hl.1 rfl (Nat.le_of_ble_eq_true rfl) dX6_bound_170 ⟨Nat.zero_le _, Nat.zero_le _⟩ (fun S_15 H locs hp_15 hw => ?_)
                            have eS_15 := hp_15
                            have eX9 : S_15 = msplF (mbs (mb0 S nb lo vv hh) nb lo vv hh j) (mbr lo vv hh j) false := by rw [eS_15, hm]
                            refine lv_iconst (v := nI 0) hx hb dX6_bound_173 (by decide) ?_
                            refine lv_istore (lv' := [(10, .int (nI 0)), (0, .ref (ad 0)), (1, .long lo), (3, .long vv), (5, .long hh), (9, .int (nI j))]) hx hb dX6_bound_174 hl (by decide) rfl (fun ls hl => ?_)
                            have lp_176 : ∀ (n : Nat) (q : Nat), q ≤ 6 → 7 ≤ q + n → ∀ (H : Heap) (locs : List Loc) (ls : Array Slot), wo_w (dC, dI) vwCl A s.heap (wq ca ad (mcp nb j S_15 q)) H locs → lv_has ls 11 [(0, .ref (ad 0)), (1, .long lo), (3, .long vv), (5, .long hh), (9, .int (nI j)), (10, .int (nI q))] → W p l e ({ frames := 3, cells := 0, slots := 0, locals := 76 } : Room) s m ([.ref (ad 0), .long lo, .long vv, .long hh] : List Value).toArray below meth c H locs 0 0 (MQ below (va_Qi (fun r S2 => r = (mbdF S nb lo vv hh).1 ∧ S2 = (mbdF S nb lo vv hh).2) (ct_B (dC, dI) vwCl (tyl ca) (wq ca ad) A) A) ([.ref (ad 0), .long lo, .long vv, .long hh] : List Value).toArray s 0 0 A) (F0 m 176 ls []) := by
                              intro n
                              induction n with
                              | zero =>
                                intro q hq hn
                                exfalso
                                omega
                              | succ n ih_176 =>
                                intro q hq hn H locs ls hw hl
                                refine lv_iload hx hb dX6_bound_176 (lv_at hl 5 rfl) ?_
                                refine lv_bipush (v := nI 6) hx hb dX6_bound_178 (by decide) ?_
                                refine lv_icmp_ge (tgt := 212) hx hb dX6_bound_180 (by decide) (fun c_16 => ?_) (fun c_16 => ?_)
                                · skip
                                  have c_16 : 6 ≤ q := (nI_leI (a := 6) (b := q) (by omega) (by omega)).mp c_16
                                  obtain rfl : 6 = q := by omega
                                  refine lv_iinc (v := nI (j + 1)) (lv' := [(9, .int (nI (j + 1))), (0, .ref (ad 0)), (1, .long lo), (3, .long vv), (5, .long hh), (10, .int (nI 6))]) hx hb dX6_bound_212 hl (k := 4) rfl (nI_inc _) (by decide) rfl (fun ls hl => ?_)
                                  refine lv_goto (tgt := 147) hx hb dX6_bound_215 (by decide) ?_
                                  have e9 : mcp nb j S_15 6 = mbs (mb0 S nb lo vv hh) nb lo vv hh (j + 1) := by rw [eX9]; rfl
                                  try rw [e9] at hw
                                  exact ih_147 (j + 1) (by omega) (by omega) _ _ _ hw (lv_sub hl [1, 2, 3, 4, 0] rfl)
                                · skip
                                  have c_16 : ¬ (6 ≤ q) := fun h9 => c_16 ((nI_leI (a := 6) (b := q) (by omega) (by omega)).mpr h9)
                                  refine lv_aload_n hx hb dX6_bound_183 rfl (lv_at hl 0 rfl) ?_
                                  refine wo_get hx hb hts inX6 hown hK hw 0 rfl rfl 5 (by decide) (hts _ wd_570) (fun _ h9 => h9) rfl dX6_bound_184 ?_
                                  refine lv_aload_n hx hb dX6_bound_187 rfl (lv_at hl 0 rfl) ?_
                                  refine wo_get hx hb hts inX6 hown hK hw 0 rfl rfl 1 (by decide) (hts _ wd_566) (fun _ h9 => h9) rfl dX6_bound_188 ?_
                                  refine tp_i (y := nI nb) ((by rw [mcp_1, eX9, msplF_q _ _ _ 0 (by omega)]; exact hcb j)) ?_
                                  refine lv_iload hx hb dX6_bound_191 (lv_at hl 4 rfl) ?_
                                  refine lv_iload hx hb dX6_bound_193 (lv_at hl 5 rfl) ?_
                                  refine wo_sI (As := [.int (nI nb), .int (nI j), .int (nI q)]) (rest := [.ref (ad 4)]) (kX6_at l dC dI ca ad (mcp nb j S_15 q) nb j q) ⟨hx, hb, hml, hown, hts⟩ (va_cwS 3 hts (wa_gS wd_680 wd_681 wd_8 wd_682) rfl rfl rfl (by decide +kernel) ⟨Nat.le_of_ble_eq_true rfl, Nat.le_of_ble_eq_true rfl⟩) hK hw hA rfl hl.1 rfl (Nat.le_of_ble_eq_true rfl) dX6_bound_195 ⟨Nat.zero_le _, Nat.zero_le _⟩ (fun r_17 S_17 H locs hp_17 hw => ?_)
                                  have e9 := hp_17.1.symm
                                  subst e9
                                  have e9 := hp_17.2.symm
                                  subst e9
                                  refine lv_aload_n hx hb dX6_bound_198 rfl (lv_at hl 0 rfl) ?_
                                  refine wo_get hx hb hts inX6 hown hK hw 0 rfl rfl 24 (by decide) (hts _ wd_589) (fun _ h9 => h9) rfl dX6_bound_199 ?_
                                  refine lv_iload hx hb dX6_bound_202 (lv_at hl 5 rfl) ?_
                                  refine wo_lald hx hb hK hw 20 1 rfl rfl q rfl (by first | assumption | omega) (by decide) dX6_bound_204 ?_
                                  refine wo_last hx hb hK hw 4 1 rfl rfl (12 * nb + 6 * j + q) rfl (by first | assumption | omega) (by decide) (sm_4 ca ad (mcp nb j S_15 q) (12 * nb + 6 * j + q) ((mcp nb j S_15 q).2 20 q)) dX6_bound_205 (fun H locs hw => ?_)
                                  refine lv_iinc (v := nI (q + 1)) (lv' := [(10, .int (nI (q + 1))), (0, .ref (ad 0)), (1, .long lo), (3, .long vv), (5, .long hh), (9, .int (nI j))]) hx hb dX6_bound_206 hl (k := 5) rfl (nI_inc _) (by decide) rfl (fun ls hl => ?_)
                                  refine lv_goto (tgt := 176) hx hb dX6_bound_209 (by decide) ?_
                                  have e9 : sL (mcp nb j S_15 q) 4 (12 * nb + 6 * j + q) ((mcp nb j S_15 q).2 20 q) = mcp nb j S_15 (q + 1) := rfl
                                  try rw [e9] at hw
                                  exact ih_176 (q + 1) (by omega) (by omega) _ _ _ hw (lv_sub hl [1, 2, 3, 4, 5, 0] rfl)
                            have e9 : S_15 = mcp nb j S_15 0 := rfl
                            try rw [e9] at hw
                            exact lp_176 7 0 (by omega) (by omega) _ _ _ hw (lv_sub hl [1, 2, 3, 4, 5, 0] rfl)
                          · skip
                            have c_14 : j = 0 := (nI_eq (a := j) (b := 0) (by omega) (by omega)).mp c_14
                            have hm : mbr lo vv hh j = vv - lo := if_pos c_14
                            refine lv_lload_n hx hb dX6_bound_159 rfl (lv_at hl 2 rfl) ?_
                            refine lv_lload_n hx hb dX6_bound_160 rfl (lv_at hl 1 rfl) ?_
                            refine lv_lsub hx hb dX6_bound_161 ?_
                            refine lv_goto (tgt := 169) hx hb dX6_bound_162 (by decide) ?_
                            refine lv_iconst (v := nI 0) hx hb dX6_bound_169 (by decide) ?_
                            refine wo_vV (As := [.long (vv - lo), .int (nI 0)]) (rest := []) (kX6_split l dC dI ca ad (mbs (mb0 S nb lo vv hh) nb lo vv hh j) (vv - lo) false (hsp j (by omega)).1 (by have h9 := (hsp j (by omega)).2; rw [hm] at h9; exact h9)) ⟨hx, hb, hml, hown, hts⟩ (cwV 2 hts (wa_gV wd_676 wd_678 ws_15 wd_8 wd_679) rfl rfl rfl (by decide +kernel) ⟨Nat.le_of_ble_eq_true rfl, Nat.le_of_ble_eq_true rfl⟩) hK hw hA 0 rfl rfl rfl rfl hl.1 rfl (Nat.le_of_ble_eq_true rfl) dX6_bound_170 ⟨Nat.zero_le _, Nat.zero_le _⟩ (fun S_18 H locs hp_18 hw => ?_)
                            have eS_18 := hp_18
                            have eX9 : S_18 = msplF (mbs (mb0 S nb lo vv hh) nb lo vv hh j) (mbr lo vv hh j) false := by rw [eS_18, hm]
                            refine lv_iconst (v := nI 0) hx hb dX6_bound_173 (by decide) ?_
                            refine lv_istore (lv' := [(10, .int (nI 0)), (0, .ref (ad 0)), (1, .long lo), (3, .long vv), (5, .long hh), (9, .int (nI j))]) hx hb dX6_bound_174 hl (by decide) rfl (fun ls hl => ?_)
                            have lp_176 : ∀ (n : Nat) (q : Nat), q ≤ 6 → 7 ≤ q + n → ∀ (H : Heap) (locs : List Loc) (ls : Array Slot), wo_w (dC, dI) vwCl A s.heap (wq ca ad (mcp nb j S_18 q)) H locs → lv_has ls 11 [(0, .ref (ad 0)), (1, .long lo), (3, .long vv), (5, .long hh), (9, .int (nI j)), (10, .int (nI q))] → W p l e ({ frames := 3, cells := 0, slots := 0, locals := 76 } : Room) s m ([.ref (ad 0), .long lo, .long vv, .long hh] : List Value).toArray below meth c H locs 0 0 (MQ below (va_Qi (fun r S2 => r = (mbdF S nb lo vv hh).1 ∧ S2 = (mbdF S nb lo vv hh).2) (ct_B (dC, dI) vwCl (tyl ca) (wq ca ad) A) A) ([.ref (ad 0), .long lo, .long vv, .long hh] : List Value).toArray s 0 0 A) (F0 m 176 ls []) := by
                              intro n
                              induction n with
                              | zero =>
                                intro q hq hn
                                exfalso
                                omega
                              | succ n ih_176 =>
                                intro q hq hn H locs ls hw hl
                                refine lv_iload hx hb dX6_bound_176 (lv_at hl 5 rfl) ?_
                                refine lv_bipush (v := nI 6) hx hb dX6_bound_178 (by decide) ?_
                                refine lv_icmp_ge (tgt := 212) hx hb dX6_bound_180 (by decide) (fun c_19 => ?_) (fun c_19 => ?_)
                                · skip
                                  have c_19 : 6 ≤ q := (nI_leI (a := 6) (b := q) (by omega) (by omega)).mp c_19
                                  obtain rfl : 6 = q := by omega
                                  refine lv_iinc (v := nI (j + 1)) (lv' := [(9, .int (nI (j + 1))), (0, .ref (ad 0)), (1, .long lo), (3, .long vv), (5, .long hh), (10, .int (nI 6))]) hx hb dX6_bound_212 hl (k := 4) rfl (nI_inc _) (by decide) rfl (fun ls hl => ?_)
                                  refine lv_goto (tgt := 147) hx hb dX6_bound_215 (by decide) ?_
                                  have e9 : mcp nb j S_18 6 = mbs (mb0 S nb lo vv hh) nb lo vv hh (j + 1) := by rw [eX9]; rfl
                                  try rw [e9] at hw
                                  exact ih_147 (j + 1) (by omega) (by omega) _ _ _ hw (lv_sub hl [1, 2, 3, 4, 0] rfl)
                                · skip
                                  have c_19 : ¬ (6 ≤ q) := fun h9 => c_19 ((nI_leI (a := 6) (b := q) (by omega) (by omega)).mpr h9)
                                  refine lv_aload_n hx hb dX6_bound_183 rfl (lv_at hl 0 rfl) ?_
                                  refine wo_get hx hb hts inX6 hown hK hw 0 rfl rfl 5 (by decide) (hts _ wd_570) (fun _ h9 => h9) rfl dX6_bound_184 ?_
                                  refine lv_aload_n hx hb dX6_bound_187 rfl (lv_at hl 0 rfl) ?_
                                  refine wo_get hx hb hts inX6 hown hK hw 0 rfl rfl 1 (by decide) (hts _ wd_566) (fun _ h9 => h9) rfl dX6_bound_188 ?_
                                  refine tp_i (y := nI nb) ((by rw [mcp_1, eX9, msplF_q _ _ _ 0 (by omega)]; exact hcb j)) ?_
                                  refine lv_iload hx hb dX6_bound_191 (lv_at hl 4 rfl) ?_
                                  refine lv_iload hx hb dX6_bound_193 (lv_at hl 5 rfl) ?_
                                  refine wo_sI (As := [.int (nI nb), .int (nI j), .int (nI q)]) (rest := [.ref (ad 4)]) (kX6_at l dC dI ca ad (mcp nb j S_18 q) nb j q) ⟨hx, hb, hml, hown, hts⟩ (va_cwS 3 hts (wa_gS wd_680 wd_681 wd_8 wd_682) rfl rfl rfl (by decide +kernel) ⟨Nat.le_of_ble_eq_true rfl, Nat.le_of_ble_eq_true rfl⟩) hK hw hA rfl hl.1 rfl (Nat.le_of_ble_eq_true rfl) dX6_bound_195 ⟨Nat.zero_le _, Nat.zero_le _⟩ (fun r_20 S_20 H locs hp_20 hw => ?_)
                                  have e9 := hp_20.1.symm
                                  subst e9
                                  have e9 := hp_20.2.symm
                                  subst e9
                                  refine lv_aload_n hx hb dX6_bound_198 rfl (lv_at hl 0 rfl) ?_
                                  refine wo_get hx hb hts inX6 hown hK hw 0 rfl rfl 24 (by decide) (hts _ wd_589) (fun _ h9 => h9) rfl dX6_bound_199 ?_
                                  refine lv_iload hx hb dX6_bound_202 (lv_at hl 5 rfl) ?_
                                  refine wo_lald hx hb hK hw 20 1 rfl rfl q rfl (by first | assumption | omega) (by decide) dX6_bound_204 ?_
                                  refine wo_last hx hb hK hw 4 1 rfl rfl (12 * nb + 6 * j + q) rfl (by first | assumption | omega) (by decide) (sm_4 ca ad (mcp nb j S_18 q) (12 * nb + 6 * j + q) ((mcp nb j S_18 q).2 20 q)) dX6_bound_205 (fun H locs hw => ?_)
                                  refine lv_iinc (v := nI (q + 1)) (lv' := [(10, .int (nI (q + 1))), (0, .ref (ad 0)), (1, .long lo), (3, .long vv), (5, .long hh), (9, .int (nI j))]) hx hb dX6_bound_206 hl (k := 5) rfl (nI_inc _) (by decide) rfl (fun ls hl => ?_)
                                  refine lv_goto (tgt := 176) hx hb dX6_bound_209 (by decide) ?_
                                  have e9 : sL (mcp nb j S_18 q) 4 (12 * nb + 6 * j + q) ((mcp nb j S_18 q).2 20 q) = mcp nb j S_18 (q + 1) := rfl
                                  try rw [e9] at hw
                                  exact ih_176 (q + 1) (by omega) (by omega) _ _ _ hw (lv_sub hl [1, 2, 3, 4, 5, 0] rfl)
                            have e9 : S_18 = mcp nb j S_18 0 := rfl
                            try rw [e9] at hw
                            exact lp_176 7 0 (by omega) (by omega) _ _ _ hw (lv_sub hl [1, 2, 3, 4, 5, 0] rfl)
                    have e9 : mb0 S nb lo vv hh = mbs (mb0 S nb lo vv hh) nb lo vv hh 0 := rfl
                    try rw [e9] at hw
                    exact lp_147 3 0 (by omega) (by omega) _ _ _ hw (lv_sub hl [1, 2, 3, 4, 0] rfl)
                  · skip
                    have c_12 : nb = 6 := (nI_eq (a := nb) (b := 6) (by omega) (by omega)).mp c_12
                    refine lv_aload_n hx hb dX6_bound_102 rfl (lv_at hl 0 rfl) ?_
                    refine lv_iconst (v := nI 3) hx hb dX6_bound_103 (by decide) ?_
                    refine wo_vI (As := [.int (nI 3)]) (rest := []) (kX6_raise l dC dI ca ad S (nI 3)) ⟨hx, hb, hml, hown, hts⟩ (cwV 1 hts (wa_gV wd_672 wd_674 ws_14 wd_8 wd_675) rfl rfl rfl (by decide +kernel) ⟨Nat.le_of_ble_eq_true rfl, Nat.le_of_ble_eq_true rfl⟩) hK hw hA 0 rfl rfl rfl rfl hl.1 rfl (Nat.le_of_ble_eq_true rfl) dX6_bound_104 ⟨Nat.zero_le _, Nat.zero_le _⟩ (fun r_21 S_21 H locs hp_21 hw => ?_)
                    have e9 := hp_21.1.symm
                    subst e9
                    have e9 := hp_21.2.symm
                    subst e9
                    exact ct_iret (S := sI S 0 0 (nI 3)) (v := nI 0) hx hb hr hlocks hK hw (⟨by simp only [mbdF, mbdR, hG, c_11, c_12, decide_true, decide_false, Bool.not_true, Bool.not_false, Bool.true_and, Bool.and_true, Bool.false_and, Bool.and_false, Bool.or_true, Bool.true_or, Bool.or_false, Bool.false_or, Bool.false_eq_true, Bool.true_eq_false, if_true, if_false, ↓reduceIte], by simp only [mbdF, mbdR, hG, c_11, c_12, decide_true, decide_false, Bool.not_true, Bool.not_false, Bool.true_and, Bool.and_true, Bool.false_and, Bool.and_false, Bool.or_true, Bool.true_or, Bool.or_false, Bool.false_or, Bool.false_eq_true, Bool.true_eq_false, if_true, if_false, ↓reduceIte]⟩) dX6_bound_107
                · skip
                  refine lv_aload_n hx hb dX6_bound_87 rfl (lv_at hl 0 rfl) ?_
                  refine lv_iconst (v := nI 2) hx hb dX6_bound_88 (by decide) ?_
                  refine wo_vI (As := [.int (nI 2)]) (rest := []) (kX6_raise l dC dI ca ad S (nI 2)) ⟨hx, hb, hml, hown, hts⟩ (cwV 1 hts (wa_gV wd_672 wd_674 ws_14 wd_8 wd_675) rfl rfl rfl (by decide +kernel) ⟨Nat.le_of_ble_eq_true rfl, Nat.le_of_ble_eq_true rfl⟩) hK hw hA 0 rfl rfl rfl rfl hl.1 rfl (Nat.le_of_ble_eq_true rfl) dX6_bound_89 ⟨Nat.zero_le _, Nat.zero_le _⟩ (fun r_22 S_22 H locs hp_22 hw => ?_)
                  have e9 := hp_22.1.symm
                  subst e9
                  have e9 := hp_22.2.symm
                  subst e9
                  exact ct_iret (S := sI S 0 0 (nI 2)) (v := nI 0) hx hb hr hlocks hK hw (⟨by simp only [mbdF, mbdR, hG, c_11, decide_true, decide_false, Bool.not_true, Bool.not_false, Bool.true_and, Bool.and_true, Bool.false_and, Bool.and_false, Bool.or_true, Bool.true_or, Bool.or_false, Bool.false_or, Bool.false_eq_true, Bool.true_eq_false, if_true, if_false, ↓reduceIte], by simp only [mbdF, mbdR, hG, c_11, decide_true, decide_false, Bool.not_true, Bool.not_false, Bool.true_and, Bool.and_true, Bool.false_and, Bool.and_false, Bool.or_true, Bool.true_or, Bool.or_false, Bool.false_or, Bool.false_eq_true, Bool.true_eq_false, if_true, if_false, ↓reduceIte]⟩) dX6_bound_92
              · skip
                have c_10 : ¬ (6 ≤ i) := fun h9 => c_10 ((nI_leI (a := 6) (b := i) (by omega) (by omega)).mpr h9)
                refine lv_lload hx hb dX6_bound_49 (lv_at hl 4 rfl) ?_
                refine lv_aload_n hx hb dX6_bound_51 rfl (lv_at hl 0 rfl) ?_
                refine lv_iload hx hb dX6_bound_52 (lv_at hl 5 rfl) ?_
                refine wo_vI (As := [.int (nI i)]) (rest := [.long (mall S false i)]) (kX6_isWell l dC dI ca ad S (nI i)) ⟨hx, hb, hml, hown, hts⟩ (cwV 1 hts (wa_gV wd_655 wd_657 ws_13 wd_8 wd_658) rfl rfl rfl (by decide +kernel) ⟨Nat.le_of_ble_eq_true rfl, Nat.le_of_ble_eq_true rfl⟩) hK hw hA 0 rfl rfl rfl rfl hl.1 rfl (Nat.le_of_ble_eq_true rfl) dX6_bound_54 ⟨Nat.zero_le _, Nat.zero_le _⟩ (fun r_23 S_23 H locs hp_23 hw => ?_)
                have e9 := hp_23.1.symm
                subst e9
                have e9 := hp_23.2.symm
                subst e9
                refine lv_if_eq (tgt := 70) hx hb dX6_bound_57 (by decide) (fun c_24 => ?_) (fun c_24 => ?_)
                · skip
                  have c_24 : mwl S (nI i) = false := nb_0 c_24
                  refine lv_lconst (v := 0) hx hb dX6_bound_70 (by decide) ?_
                  refine lv_ladd hx hb dX6_bound_71 ?_
                  refine lv_lstore (lv' := [(7, .long ((mall S false i) + 0)), (0, .ref (ad 0)), (1, .long lo), (3, .long vv), (5, .long hh), (9, .int (nI i))]) hx hb dX6_bound_72 hl (by decide) rfl (fun ls hl => ?_)
                  refine lv_iinc (v := nI (i + 1)) (lv' := [(9, .int (nI (i + 1))), (7, .long ((mall S false i) + 0)), (0, .ref (ad 0)), (1, .long lo), (3, .long vv), (5, .long hh)]) hx hb dX6_bound_74 hl (k := 5) rfl (nI_inc _) (by decide) rfl (fun ls hl => ?_)
                  refine lv_goto (tgt := 42) hx hb dX6_bound_77 (by decide) ?_
                  have e9 : (mall S false i) + 0 = mall S false (i + 1) := by first | rfl | (simp only [mall, mown, c_10, c_24, decide_true, decide_false, Bool.not_true, Bool.not_false, Bool.true_and, Bool.and_true, Bool.false_and, Bool.and_false, Bool.or_true, Bool.true_or, Bool.or_false, Bool.false_or, Bool.false_eq_true, Bool.true_eq_false, if_true, if_false, ↓reduceIte]; done)
                  try rw [e9] at hl
                  exact ih_42 (i + 1) (by omega) (by omega) _ _ _ hw (lv_sub hl [2, 3, 4, 5, 1, 0] rfl)
                · skip
                  have c_24 : mwl S (nI i) = true := nb_1 c_24
                  refine lv_aload_n hx hb dX6_bound_60 rfl (lv_at hl 0 rfl) ?_
                  refine wo_get hx hb hts inX6 hown hK hw 0 rfl rfl 6 (by decide) (hts _ wd_571) (fun _ h9 => h9) rfl dX6_bound_61 ?_
                  refine lv_iload hx hb dX6_bound_64 (lv_at hl 5 rfl) ?_
                  refine wo_lald hx hb hK hw 5 1 rfl rfl i rfl (by first | assumption | omega) (by decide) dX6_bound_66 ?_
                  refine lv_goto (tgt := 71) hx hb dX6_bound_67 (by decide) ?_
                  refine lv_ladd hx hb dX6_bound_71 ?_
                  refine lv_lstore (lv' := [(7, .long ((mall S false i) + (S.2 5 i))), (0, .ref (ad 0)), (1, .long lo), (3, .long vv), (5, .long hh), (9, .int (nI i))]) hx hb dX6_bound_72 hl (by decide) rfl (fun ls hl => ?_)
                  refine lv_iinc (v := nI (i + 1)) (lv' := [(9, .int (nI (i + 1))), (7, .long ((mall S false i) + (S.2 5 i))), (0, .ref (ad 0)), (1, .long lo), (3, .long vv), (5, .long hh)]) hx hb dX6_bound_74 hl (k := 5) rfl (nI_inc _) (by decide) rfl (fun ls hl => ?_)
                  refine lv_goto (tgt := 42) hx hb dX6_bound_77 (by decide) ?_
                  have e9 : (mall S false i) + (S.2 5 i) = mall S false (i + 1) := by first | rfl | (simp only [mall, mown, c_10, c_24, decide_true, decide_false, Bool.not_true, Bool.not_false, Bool.true_and, Bool.and_true, Bool.false_and, Bool.and_false, Bool.or_true, Bool.true_or, Bool.or_false, Bool.false_or, Bool.false_eq_true, Bool.true_eq_false, if_true, if_false, ↓reduceIte]; done)
                  try rw [e9] at hl
                  exact ih_42 (i + 1) (by omega) (by omega) _ _ _ hw (lv_sub hl [2, 3, 4, 5, 1, 0] rfl)
          have e9 : 0 = mall S false 0 := by first | rfl | (simp only [mall, mown, c_1, c_3, c_6, c_9, decide_true, decide_false, Bool.not_true, Bool.not_false, Bool.true_and, Bool.and_true, Bool.false_and, Bool.and_false, Bool.or_true, Bool.true_or, Bool.or_false, Bool.false_or, Bool.false_eq_true, Bool.true_eq_false, if_true, if_false, ↓reduceIte]; done)
          try rw [e9] at hl
          exact lp_42 7 0 (by omega) (by omega) _ _ _ hw (lv_sub hl [2, 3, 4, 5, 1, 0] rfl)
        · skip
          have c_9 : mtg vv hh = true := nb_1 c_9
          refine lv_aload_n hx hb dX6_bound_30 rfl (lv_at hl 0 rfl) ?_
          refine lv_iconst (v := nI 1) hx hb dX6_bound_31 (by decide) ?_
          refine wo_vI (As := [.int (nI 1)]) (rest := []) (kX6_raise l dC dI ca ad S (nI 1)) ⟨hx, hb, hml, hown, hts⟩ (cwV 1 hts (wa_gV wd_672 wd_674 ws_14 wd_8 wd_675) rfl rfl rfl (by decide +kernel) ⟨Nat.le_of_ble_eq_true rfl, Nat.le_of_ble_eq_true rfl⟩) hK hw hA 0 rfl rfl rfl rfl hl.1 rfl (Nat.le_of_ble_eq_true rfl) dX6_bound_32 ⟨Nat.zero_le _, Nat.zero_le _⟩ (fun r_25 S_25 H locs hp_25 hw => ?_)
          have e9 := hp_25.1.symm
          subst e9
          have e9 := hp_25.2.symm
          subst e9
          exact ct_iret (S := sI S 0 0 (nI 1)) (v := nI 0) hx hb hr hlocks hK hw (⟨by simp only [mbdF, mbG, c_1, c_3, c_6, c_9, decide_true, decide_false, Bool.not_true, Bool.not_false, Bool.true_and, Bool.and_true, Bool.false_and, Bool.and_false, Bool.or_true, Bool.true_or, Bool.or_false, Bool.false_or, Bool.false_eq_true, Bool.true_eq_false, if_true, if_false, ↓reduceIte], by simp only [mbdF, mbG, c_1, c_3, c_6, c_9, decide_true, decide_false, Bool.not_true, Bool.not_false, Bool.true_and, Bool.and_true, Bool.false_and, Bool.and_false, Bool.or_true, Bool.true_or, Bool.or_false, Bool.false_or, Bool.false_eq_true, Bool.true_eq_false, if_true, if_false, ↓reduceIte]⟩) dX6_bound_35
