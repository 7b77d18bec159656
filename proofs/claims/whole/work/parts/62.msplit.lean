theorem dX6_split_0 : decode cX6_split 0 = .ok (.lconst 0, 1) := by decide +kernel
theorem dX6_split_1 : decode cX6_split 1 = .ok (.lstore 4, 2) := by decide +kernel
theorem dX6_split_3 : decode cX6_split 3 = .ok (.iconst 0, 1) := by decide +kernel
theorem dX6_split_4 : decode cX6_split 4 = .ok (.istore 6, 2) := by decide +kernel
theorem dX6_split_6 : decode cX6_split 6 = .ok (.iload 6, 2) := by decide +kernel
theorem dX6_split_8 : decode cX6_split 8 = .ok (.bipush 6, 2) := by decide +kernel
theorem dX6_split_10 : decode cX6_split 10 = .ok (.if_icmp .ge 42, 3) := by decide +kernel
theorem dX6_split_13 : decode cX6_split 13 = .ok (.lload 4, 2) := by decide +kernel
theorem dX6_split_15 : decode cX6_split 15 = .ok (.aload_n 0, 1) := by decide +kernel
theorem dX6_split_16 : decode cX6_split 16 = .ok (.iload 6, 2) := by decide +kernel
theorem dX6_split_18 : decode cX6_split 18 = .ok (.invokevirtual 91, 3) := by decide +kernel
theorem dX6_split_21 : decode cX6_split 21 = .ok (.ifCond .eq 21, 3) := by decide +kernel
theorem dX6_split_24 : decode cX6_split 24 = .ok (.iload_n 3, 1) := by decide +kernel
theorem dX6_split_25 : decode cX6_split 25 = .ok (.ifCond .eq 7, 3) := by decide +kernel
theorem dX6_split_28 : decode cX6_split 28 = .ok (.lconst 1, 1) := by decide +kernel
theorem dX6_split_29 : decode cX6_split 29 = .ok (.goto 14, 3) := by decide +kernel
theorem dX6_split_32 : decode cX6_split 32 = .ok (.aload_n 0, 1) := by decide +kernel
theorem dX6_split_33 : decode cX6_split 33 = .ok (.getfield 22, 3) := by decide +kernel
theorem dX6_split_36 : decode cX6_split 36 = .ok (.iload 6, 2) := by decide +kernel
theorem dX6_split_38 : decode cX6_split 38 = .ok (.laload, 1) := by decide +kernel
theorem dX6_split_39 : decode cX6_split 39 = .ok (.goto 4, 3) := by decide +kernel
theorem dX6_split_42 : decode cX6_split 42 = .ok (.lconst 0, 1) := by decide +kernel
theorem dX6_split_43 : decode cX6_split 43 = .ok (.ladd, 1) := by decide +kernel
theorem dX6_split_44 : decode cX6_split 44 = .ok (.lstore 4, 2) := by decide +kernel
theorem dX6_split_46 : decode cX6_split 46 = .ok (.iinc 6 1, 3) := by decide +kernel
theorem dX6_split_49 : decode cX6_split 49 = .ok (.goto (-43), 3) := by decide +kernel
theorem dX6_split_52 : decode cX6_split 52 = .ok (.lload_n 1, 1) := by decide +kernel
theorem dX6_split_53 : decode cX6_split 53 = .ok (.lstore 6, 2) := by decide +kernel
theorem dX6_split_55 : decode cX6_split 55 = .ok (.iconst 0, 1) := by decide +kernel
theorem dX6_split_56 : decode cX6_split 56 = .ok (.istore 8, 2) := by decide +kernel
theorem dX6_split_58 : decode cX6_split 58 = .ok (.iload 8, 2) := by decide +kernel
theorem dX6_split_60 : decode cX6_split 60 = .ok (.bipush 6, 2) := by decide +kernel
theorem dX6_split_62 : decode cX6_split 62 = .ok (.if_icmp .ge 87, 3) := by decide +kernel
theorem dX6_split_65 : decode cX6_split 65 = .ok (.aload_n 0, 1) := by decide +kernel
theorem dX6_split_66 : decode cX6_split 66 = .ok (.iload 8, 2) := by decide +kernel
theorem dX6_split_68 : decode cX6_split 68 = .ok (.invokevirtual 91, 3) := by decide +kernel
theorem dX6_split_71 : decode cX6_split 71 = .ok (.ifCond .eq 21, 3) := by decide +kernel
theorem dX6_split_74 : decode cX6_split 74 = .ok (.iload_n 3, 1) := by decide +kernel
theorem dX6_split_75 : decode cX6_split 75 = .ok (.ifCond .eq 7, 3) := by decide +kernel
theorem dX6_split_78 : decode cX6_split 78 = .ok (.lconst 1, 1) := by decide +kernel
theorem dX6_split_79 : decode cX6_split 79 = .ok (.goto 14, 3) := by decide +kernel
theorem dX6_split_82 : decode cX6_split 82 = .ok (.aload_n 0, 1) := by decide +kernel
theorem dX6_split_83 : decode cX6_split 83 = .ok (.getfield 22, 3) := by decide +kernel
theorem dX6_split_86 : decode cX6_split 86 = .ok (.iload 8, 2) := by decide +kernel
theorem dX6_split_88 : decode cX6_split 88 = .ok (.laload, 1) := by decide +kernel
theorem dX6_split_89 : decode cX6_split 89 = .ok (.goto 4, 3) := by decide +kernel
theorem dX6_split_92 : decode cX6_split 92 = .ok (.lconst 0, 1) := by decide +kernel
theorem dX6_split_93 : decode cX6_split 93 = .ok (.lstore 9, 2) := by decide +kernel
theorem dX6_split_95 : decode cX6_split 95 = .ok (.aload_n 0, 1) := by decide +kernel
theorem dX6_split_96 : decode cX6_split 96 = .ok (.getfield 69, 3) := by decide +kernel
theorem dX6_split_99 : decode cX6_split 99 = .ok (.iload 8, 2) := by decide +kernel
theorem dX6_split_101 : decode cX6_split 101 = .ok (.lload_n 1, 1) := by decide +kernel
theorem dX6_split_102 : decode cX6_split 102 = .ok (.lload 9, 2) := by decide +kernel
theorem dX6_split_104 : decode cX6_split 104 = .ok (.lmul, 1) := by decide +kernel
theorem dX6_split_105 : decode cX6_split 105 = .ok (.lload 4, 2) := by decide +kernel
theorem dX6_split_107 : decode cX6_split 107 = .ok (.ldiv, 1) := by decide +kernel
theorem dX6_split_108 : decode cX6_split 108 = .ok (.lastore, 1) := by decide +kernel
theorem dX6_split_109 : decode cX6_split 109 = .ok (.aload_n 0, 1) := by decide +kernel
theorem dX6_split_110 : decode cX6_split 110 = .ok (.getfield 72, 3) := by decide +kernel
theorem dX6_split_113 : decode cX6_split 113 = .ok (.iload 8, 2) := by decide +kernel
theorem dX6_split_115 : decode cX6_split 115 = .ok (.lload_n 1, 1) := by decide +kernel
theorem dX6_split_116 : decode cX6_split 116 = .ok (.lload 9, 2) := by decide +kernel
theorem dX6_split_118 : decode cX6_split 118 = .ok (.lmul, 1) := by decide +kernel
theorem dX6_split_119 : decode cX6_split 119 = .ok (.lload 4, 2) := by decide +kernel
theorem dX6_split_121 : decode cX6_split 121 = .ok (.lrem, 1) := by decide +kernel
theorem dX6_split_122 : decode cX6_split 122 = .ok (.lastore, 1) := by decide +kernel
theorem dX6_split_123 : decode cX6_split 123 = .ok (.aload_n 0, 1) := by decide +kernel
theorem dX6_split_124 : decode cX6_split 124 = .ok (.getfield 75, 3) := by decide +kernel
theorem dX6_split_127 : decode cX6_split 127 = .ok (.iload 8, 2) := by decide +kernel
theorem dX6_split_129 : decode cX6_split 129 = .ok (.iconst 0, 1) := by decide +kernel
theorem dX6_split_130 : decode cX6_split 130 = .ok (.bastore, 1) := by decide +kernel
theorem dX6_split_131 : decode cX6_split 131 = .ok (.lload 6, 2) := by decide +kernel
theorem dX6_split_133 : decode cX6_split 133 = .ok (.aload_n 0, 1) := by decide +kernel
theorem dX6_split_134 : decode cX6_split 134 = .ok (.getfield 69, 3) := by decide +kernel
theorem dX6_split_137 : decode cX6_split 137 = .ok (.iload 8, 2) := by decide +kernel
theorem dX6_split_139 : decode cX6_split 139 = .ok (.laload, 1) := by decide +kernel
theorem dX6_split_140 : decode cX6_split 140 = .ok (.lsub, 1) := by decide +kernel
theorem dX6_split_141 : decode cX6_split 141 = .ok (.lstore 6, 2) := by decide +kernel
theorem dX6_split_143 : decode cX6_split 143 = .ok (.iinc 8 1, 3) := by decide +kernel
theorem dX6_split_146 : decode cX6_split 146 = .ok (.goto (-88), 3) := by decide +kernel
theorem dX6_split_149 : decode cX6_split 149 = .ok (.lload 6, 2) := by decide +kernel
theorem dX6_split_151 : decode cX6_split 151 = .ok (.lconst 0, 1) := by decide +kernel
theorem dX6_split_152 : decode cX6_split 152 = .ok (.lcmp, 1) := by decide +kernel
theorem dX6_split_153 : decode cX6_split 153 = .ok (.ifCond .le 88, 3) := by decide +kernel
theorem dX6_split_156 : decode cX6_split 156 = .ok (.iconst (-1), 1) := by decide +kernel
theorem dX6_split_157 : decode cX6_split 157 = .ok (.istore 8, 2) := by decide +kernel
theorem dX6_split_159 : decode cX6_split 159 = .ok (.iconst 0, 1) := by decide +kernel
theorem dX6_split_160 : decode cX6_split 160 = .ok (.istore 9, 2) := by decide +kernel
theorem dX6_split_162 : decode cX6_split 162 = .ok (.iload 9, 2) := by decide +kernel
theorem dX6_split_164 : decode cX6_split 164 = .ok (.bipush 6, 2) := by decide +kernel
theorem dX6_split_166 : decode cX6_split 166 = .ok (.if_icmp .ge 47, 3) := by decide +kernel
theorem dX6_split_169 : decode cX6_split 169 = .ok (.aload_n 0, 1) := by decide +kernel
theorem dX6_split_170 : decode cX6_split 170 = .ok (.getfield 75, 3) := by decide +kernel
theorem dX6_split_173 : decode cX6_split 173 = .ok (.iload 9, 2) := by decide +kernel
theorem dX6_split_175 : decode cX6_split 175 = .ok (.baload, 1) := by decide +kernel
theorem dX6_split_176 : decode cX6_split 176 = .ok (.ifCond .ne 31, 3) := by decide +kernel
theorem dX6_split_179 : decode cX6_split 179 = .ok (.iload 8, 2) := by decide +kernel
theorem dX6_split_181 : decode cX6_split 181 = .ok (.iconst (-1), 1) := by decide +kernel
theorem dX6_split_182 : decode cX6_split 182 = .ok (.if_icmp .eq 21, 3) := by decide +kernel
theorem dX6_split_185 : decode cX6_split 185 = .ok (.aload_n 0, 1) := by decide +kernel
theorem dX6_split_186 : decode cX6_split 186 = .ok (.getfield 72, 3) := by decide +kernel
theorem dX6_split_189 : decode cX6_split 189 = .ok (.iload 9, 2) := by decide +kernel
theorem dX6_split_191 : decode cX6_split 191 = .ok (.laload, 1) := by decide +kernel
theorem dX6_split_192 : decode cX6_split 192 = .ok (.aload_n 0, 1) := by decide +kernel
theorem dX6_split_193 : decode cX6_split 193 = .ok (.getfield 72, 3) := by decide +kernel
theorem dX6_split_196 : decode cX6_split 196 = .ok (.iload 8, 2) := by decide +kernel
theorem dX6_split_198 : decode cX6_split 198 = .ok (.laload, 1) := by decide +kernel
theorem dX6_split_199 : decode cX6_split 199 = .ok (.lcmp, 1) := by decide +kernel
theorem dX6_split_200 : decode cX6_split 200 = .ok (.ifCond .le 7, 3) := by decide +kernel
theorem dX6_split_203 : decode cX6_split 203 = .ok (.iload 9, 2) := by decide +kernel
theorem dX6_split_205 : decode cX6_split 205 = .ok (.istore 8, 2) := by decide +kernel
theorem dX6_split_207 : decode cX6_split 207 = .ok (.iinc 9 1, 3) := by decide +kernel
theorem dX6_split_210 : decode cX6_split 210 = .ok (.goto (-48), 3) := by decide +kernel
theorem dX6_split_213 : decode cX6_split 213 = .ok (.aload_n 0, 1) := by decide +kernel
theorem dX6_split_214 : decode cX6_split 214 = .ok (.getfield 75, 3) := by decide +kernel
theorem dX6_split_217 : decode cX6_split 217 = .ok (.iload 8, 2) := by decide +kernel
theorem dX6_split_219 : decode cX6_split 219 = .ok (.iconst 1, 1) := by decide +kernel
theorem dX6_split_220 : decode cX6_split 220 = .ok (.bastore, 1) := by decide +kernel
theorem dX6_split_221 : decode cX6_split 221 = .ok (.aload_n 0, 1) := by decide +kernel
theorem dX6_split_222 : decode cX6_split 222 = .ok (.getfield 69, 3) := by decide +kernel
theorem dX6_split_225 : decode cX6_split 225 = .ok (.iload 8, 2) := by decide +kernel
theorem dX6_split_227 : decode cX6_split 227 = .ok (.dup2, 1) := by decide +kernel
theorem dX6_split_228 : decode cX6_split 228 = .ok (.laload, 1) := by decide +kernel
theorem dX6_split_229 : decode cX6_split 229 = .ok (.lconst 1, 1) := by decide +kernel
theorem dX6_split_230 : decode cX6_split 230 = .ok (.ladd, 1) := by decide +kernel
theorem dX6_split_231 : decode cX6_split 231 = .ok (.lastore, 1) := by decide +kernel
theorem dX6_split_232 : decode cX6_split 232 = .ok (.lload 6, 2) := by decide +kernel
theorem dX6_split_234 : decode cX6_split 234 = .ok (.lconst 1, 1) := by decide +kernel
theorem dX6_split_235 : decode cX6_split 235 = .ok (.lsub, 1) := by decide +kernel
theorem dX6_split_236 : decode cX6_split 236 = .ok (.lstore 6, 2) := by decide +kernel
theorem dX6_split_238 : decode cX6_split 238 = .ok (.goto (-89), 3) := by decide +kernel
theorem dX6_split_241 : decode cX6_split 241 = .ok (.return_, 1) := by decide +kernel

set_option maxHeartbeats 4000000 in
set_option maxRecDepth 100000 in
theorem kX6_split (l : Launch) (dC : Nat → ClassId) (dI : Nat → Nat → Nat) (ca : Nat → ClassId) (ad : Nat → Nat) (S : sSt) (room : Int64) (b0 : Bool) (hne : ¬ mall S b0 6 = 0) (hok0 : mspOk 6 (mspl1 S room (mall S b0 6) b0 6)) : ct_V l yX6_split (Cond.code yX6_split cX6_split 11 none :: wa_T) ({ frames := 2, cells := 0, slots := 0, locals := 46 } : Room) (dC, dI) vwCl (tyl ca) (wq ca ad) S [.ref (ad 0), .long room, .int (bI b0)] (fun S2 => S2 = msplF S room b0) := by
  refine ct_ofV (by decide) (Nat.le_of_ble_eq_true rfl) ?_
  intro p e s m below meth c A ls hx hb hr hml hts hown hlocks hK hA hw hl
  have hl : lv_has ls 11 [(0, .ref (ad 0)), (1, .long room), (3, .int (bI b0))] := hl
  refine lv_lconst (v := 0) hx hb dX6_split_0 (by decide) ?_
  refine lv_lstore (lv' := [(4, .long 0), (0, .ref (ad 0)), (1, .long room), (3, .int (bI b0))]) hx hb dX6_split_1 hl (by decide) rfl (fun ls hl => ?_)
  refine lv_iconst (v := nI 0) hx hb dX6_split_3 (by decide) ?_
  refine lv_istore (lv' := [(6, .int (nI 0)), (4, .long 0), (0, .ref (ad 0)), (1, .long room), (3, .int (bI b0))]) hx hb dX6_split_4 hl (by decide) rfl (fun ls hl => ?_)
  have lp_6 : ∀ (n : Nat) (i : Nat), i ≤ 6 → 7 ≤ i + n → ∀ (H : Heap) (locs : List Loc) (ls : Array Slot), wo_w (dC, dI) vwCl A s.heap (wq ca ad S) H locs → lv_has ls 11 [(0, .ref (ad 0)), (1, .long room), (3, .int (bI b0)), (4, .long (mall S b0 i)), (6, .int (nI i))] → W p l e ({ frames := 2, cells := 0, slots := 0, locals := 46 } : Room) s m ([.ref (ad 0), .long room, .int (bI b0)] : List Value).toArray below meth c H locs 0 0 (MQ below (va_Qv (fun S2 => S2 = msplF S room b0) (ct_B (dC, dI) vwCl (tyl ca) (wq ca ad) A) A) ([.ref (ad 0), .long room, .int (bI b0)] : List Value).toArray s 0 0 A) (F0 m 6 ls []) := by
    intro n
    induction n with
    | zero =>
      intro i hi hn
      exfalso
      omega
    | succ n ih_6 =>
      intro i hi hn H locs ls hw hl
      refine lv_iload hx hb dX6_split_6 (lv_at hl 4 rfl) ?_
      refine lv_bipush (v := nI 6) hx hb dX6_split_8 (by decide) ?_
      refine lv_icmp_ge (tgt := 52) hx hb dX6_split_10 (by decide) (fun c_1 => ?_) (fun c_1 => ?_)
      · skip
        have c_1 : 6 ≤ i := (nI_leI (a := 6) (b := i) (by omega) (by omega)).mp c_1
        obtain rfl : 6 = i := by omega
        refine lv_lload_n hx hb dX6_split_52 rfl (lv_at hl 1 rfl) ?_
        refine lv_lstore (lv' := [(6, .long room), (0, .ref (ad 0)), (1, .long room), (3, .int (bI b0)), (4, .long (mall S b0 6))]) hx hb dX6_split_53 hl (by decide) rfl (fun ls hl => ?_)
        refine lv_iconst (v := nI 0) hx hb dX6_split_55 (by decide) ?_
        refine lv_istore (lv' := [(8, .int (nI 0)), (6, .long room), (0, .ref (ad 0)), (1, .long room), (3, .int (bI b0)), (4, .long (mall S b0 6))]) hx hb dX6_split_56 hl (by decide) rfl (fun ls hl => ?_)
        have lp_58 : ∀ (n : Nat) (i : Nat), i ≤ 6 → 7 ≤ i + n → ∀ (H : Heap) (locs : List Loc) (ls : Array Slot), wo_w (dC, dI) vwCl A s.heap (wq ca ad ((mspl1 S room (mall S b0 6) b0 i).1)) H locs → lv_has ls 11 [(0, .ref (ad 0)), (1, .long room), (3, .int (bI b0)), (4, .long (mall S b0 6)), (6, .long ((mspl1 S room (mall S b0 6) b0 i).2)), (8, .int (nI i))] → W p l e ({ frames := 2, cells := 0, slots := 0, locals := 46 } : Room) s m ([.ref (ad 0), .long room, .int (bI b0)] : List Value).toArray below meth c H locs 0 0 (MQ below (va_Qv (fun S2 => S2 = msplF S room b0) (ct_B (dC, dI) vwCl (tyl ca) (wq ca ad) A) A) ([.ref (ad 0), .long room, .int (bI b0)] : List Value).toArray s 0 0 A) (F0 m 58 ls []) := by
          intro n
          induction n with
          | zero =>
            intro i hi hn
            exfalso
            omega
          | succ n ih_58 =>
            intro i hi hn H locs ls hw hl
            refine lv_iload hx hb dX6_split_58 (lv_at hl 5 rfl) ?_
            refine lv_bipush (v := nI 6) hx hb dX6_split_60 (by decide) ?_
            refine lv_icmp_ge (tgt := 149) hx hb dX6_split_62 (by decide) (fun c_2 => ?_) (fun c_2 => ?_)
            · skip
              have c_2 : 6 ≤ i := (nI_leI (a := 6) (b := i) (by omega) (by omega)).mp c_2
              obtain rfl : 6 = i := by omega
              have lp_149 : ∀ (n : Nat) (i : Nat) (X : sSt × Int64), i ≤ 6 → 7 ≤ i + n → mspOk (6 - i) X → mspl2 (6 - i) X = mspl2 6 (mspl1 S room (mall S b0 6) b0 6) → ∀ (H : Heap) (locs : List Loc) (ls : Array Slot), wo_w (dC, dI) vwCl A s.heap (wq ca ad X.1) H locs → lv_has ls 11 [(0, .ref (ad 0)), (6, .long X.2)] → W p l e ({ frames := 2, cells := 0, slots := 0, locals := 46 } : Room) s m ([.ref (ad 0), .long room, .int (bI b0)] : List Value).toArray below meth c H locs 0 0 (MQ below (va_Qv (fun S2 => S2 = msplF S room b0) (ct_B (dC, dI) vwCl (tyl ca) (wq ca ad) A) A) ([.ref (ad 0), .long room, .int (bI b0)] : List Value).toArray s 0 0 A) (F0 m 149 ls []) := by
                intro n
                induction n with
                | zero =>
                  intro i X hi hn hok hrem
                  exfalso
                  omega
                | succ n ih_149 =>
                  intro i X hi hn hok hrem H locs ls hw hl
                  refine lv_lload hx hb dX6_split_149 (lv_at hl 1 rfl) ?_
                  refine lv_lconst (v := 0) hx hb dX6_split_151 (by decide) ?_
                  refine lc_le (tgt := 241) hx hb dX6_split_152 dX6_split_153 (by decide) (fun c_3 => ?_) (fun c_3 => ?_)
                  · skip
                    have hX := mspl2_stop hrem c_3
                    exact ct_vret (S := X.1) hx hb hr hlocks hK hw (by rw [msplF, ← hX]) dX6_split_241
                  · skip
                    have hpos := c_3
                    have hi6 : i < 6 := mspOk_lt hok hpos
                    have e66 : 6 - i = (6 - (i + 1)) + 1 := by omega
                    rw [e66] at hok
                    refine lv_iconst (v := (-1)) hx hb dX6_split_156 (by decide) ?_
                    refine lv_istore (lv' := [(8, .int (-1)), (0, .ref (ad 0)), (6, .long X.2)]) hx hb dX6_split_157 hl (by decide) rfl (fun ls hl => ?_)
                    refine lv_iconst (v := nI 0) hx hb dX6_split_159 (by decide) ?_
                    refine lv_istore (lv' := [(9, .int (nI 0)), (8, .int (-1)), (0, .ref (ad 0)), (6, .long X.2)]) hx hb dX6_split_160 hl (by decide) rfl (fun ls hl => ?_)
                    have lp_162 : ∀ (n : Nat) (j : Nat), j ≤ 6 → 7 ≤ j + n → ∀ (H : Heap) (locs : List Loc) (ls : Array Slot), wo_w (dC, dI) vwCl A s.heap (wq ca ad X.1) H locs → lv_has ls 11 [(0, .ref (ad 0)), (6, .long X.2), (8, .int (mbest X.1 j)), (9, .int (nI j))] → W p l e ({ frames := 2, cells := 0, slots := 0, locals := 46 } : Room) s m ([.ref (ad 0), .long room, .int (bI b0)] : List Value).toArray below meth c H locs 0 0 (MQ below (va_Qv (fun S2 => S2 = msplF S room b0) (ct_B (dC, dI) vwCl (tyl ca) (wq ca ad) A) A) ([.ref (ad 0), .long room, .int (bI b0)] : List Value).toArray s 0 0 A) (F0 m 162 ls []) := by
                      intro n
                      induction n with
                      | zero =>
                        intro j hj hn
                        exfalso
                        omega
                      | succ n ih_162 =>
                        intro j hj hn H locs ls hw hl
                        refine lv_iload hx hb dX6_split_162 (lv_at hl 3 rfl) ?_
                        refine lv_bipush (v := nI 6) hx hb dX6_split_164 (by decide) ?_
                        refine lv_icmp_ge (tgt := 213) hx hb dX6_split_166 (by decide) (fun c_4 => ?_) (fun c_4 => ?_)
                        · skip
                          have c_4 : 6 ≤ j := (nI_leI (a := 6) (b := j) (by omega) (by omega)).mp c_4
                          obtain rfl : 6 = j := by omega
                          obtain ⟨q9, hq9, eq9⟩ := (mbest_n X.1 6).resolve_left (hok.resolve_left hpos).1
                          rw [eq9] at hl
                          have ec_q9 := nI_clamp (n := q9) (by omega)
                          refine lv_aload_n hx hb dX6_split_213 rfl (lv_at hl 0 rfl) ?_
                          refine wo_get hx hb hts inX6 hown hK hw 0 rfl rfl 26 (by decide) (hts _ wd_591) (fun _ h9 => h9) rfl dX6_split_214 ?_
                          refine lv_iload hx hb dX6_split_217 (lv_at hl 2 rfl) ?_
                          refine lv_iconst (v := nI 1) hx hb dX6_split_219 (by decide) ?_
                          refine wo_zast hx hb hK hw 22 2 rfl rfl q9 rfl (by first | assumption | omega) (by decide) (by first | decide | assumption | exact nb_v _) (sm_22 ca ad X.1 q9 (nI 1)) dX6_split_220 (fun H locs hw => ?_)
                          refine lv_aload_n hx hb dX6_split_221 rfl (lv_at hl 0 rfl) ?_
                          refine wo_get hx hb hts inX6 hown hK hw 0 rfl rfl 24 (by decide) (hts _ wd_589) (fun _ h9 => h9) rfl dX6_split_222 ?_
                          refine lv_iload hx hb dX6_split_225 (lv_at hl 2 rfl) ?_
                          refine lv_dup2_11 hx hb dX6_split_227 rfl rfl ?_
                          refine wo_lald hx hb hK hw 20 1 rfl rfl q9 rfl (by first | assumption | omega) (by decide) dX6_split_228 ?_
                          refine lv_lconst (v := 1) hx hb dX6_split_229 (by decide) ?_
                          refine lv_ladd hx hb dX6_split_230 ?_
                          refine wo_last hx hb hK hw 20 1 rfl rfl q9 rfl (by first | assumption | omega) (by decide) (sm_20 ca ad (sI X.1 22 q9 (nI 1)) q9 (((sI X.1 22 q9 (nI 1)).2 20 q9) + 1)) dX6_split_231 (fun H locs hw => ?_)
                          refine lv_lload hx hb dX6_split_232 (lv_at hl 1 rfl) ?_
                          refine lv_lconst (v := 1) hx hb dX6_split_234 (by decide) ?_
                          refine lv_lsub hx hb dX6_split_235 ?_
                          refine lv_lstore (lv' := [(6, .long (X.2 - 1)), (0, .ref (ad 0)), (8, .int (nI q9)), (9, .int (nI 6))]) hx hb dX6_split_236 hl (by decide) rfl (fun ls hl => ?_)
                          refine lv_goto (tgt := 149) hx hb dX6_split_238 (by decide) ?_
                          have e9 : X.2 - 1 = (mp2 X).2 := rfl
                          try rw [e9] at hl
                          have e9 : sL (sI X.1 22 q9 (nI 1)) 20 q9 (((sI X.1 22 q9 (nI 1)).2 20 q9) + 1) = (mp2 X).1 := by simp only [mp2, eq9, ec_q9]
                          try rw [e9] at hw
                          exact ih_149 (i + 1) (mp2 X) (by omega) (by omega) (hok.resolve_left hpos).2 (mspl2_step hrem (by omega) hpos) _ _ _ hw (lv_sub hl [1, 0] rfl)
                        · skip
                          have c_4 : ¬ (6 ≤ j) := fun h9 => c_4 ((nI_leI (a := 6) (b := j) (by omega) (by omega)).mpr h9)
                          refine lv_aload_n hx hb dX6_split_169 rfl (lv_at hl 0 rfl) ?_
                          refine wo_get hx hb hts inX6 hown hK hw 0 rfl rfl 26 (by decide) (hts _ wd_591) (fun _ h9 => h9) rfl dX6_split_170 ?_
                          refine lv_iload hx hb dX6_split_173 (lv_at hl 3 rfl) ?_
                          refine wo_zald hx hb hK hw 22 2 rfl rfl j rfl (by first | assumption | omega) (by decide) dX6_split_175 ?_
                          refine lv_if_ne (tgt := 207) hx hb dX6_split_176 (by decide) (fun c_5 => ?_) (fun c_5 => ?_)
                          · skip
                            refine lv_iinc (v := nI (j + 1)) (lv' := [(9, .int (nI (j + 1))), (0, .ref (ad 0)), (6, .long X.2), (8, .int (mbest X.1 j))]) hx hb dX6_split_207 hl (k := 3) rfl (nI_inc _) (by decide) rfl (fun ls hl => ?_)
                            refine lv_goto (tgt := 162) hx hb dX6_split_210 (by decide) ?_
                            have e9 : mbest X.1 j = mbest X.1 (j + 1) := by first | rfl | (simp only [mbest, c_4, c_5, not_true_eq_false, not_false_eq_true, decide_true, decide_false, Bool.not_true, Bool.not_false, Bool.true_and, Bool.and_true, Bool.false_and, Bool.and_false, Bool.or_true, Bool.true_or, Bool.or_false, Bool.false_or, Bool.false_eq_true, Bool.true_eq_false, if_true, if_false, ↓reduceIte]; done)
                            try rw [e9] at hl
                            exact ih_162 (j + 1) (by omega) (by omega) _ _ _ hw (lv_sub hl [1, 2, 3, 0] rfl)
                          · skip
                            refine lv_iload hx hb dX6_split_179 (lv_at hl 2 rfl) ?_
                            refine lv_iconst (v := (-1)) hx hb dX6_split_181 (by decide) ?_
                            refine lv_icmp_eq (tgt := 203) hx hb dX6_split_182 (by decide) (fun c_6 => ?_) (fun c_6 => ?_)
                            · skip
                              refine lv_iload hx hb dX6_split_203 (lv_at hl 3 rfl) ?_
                              refine lv_istore (lv' := [(8, .int (nI j)), (0, .ref (ad 0)), (6, .long X.2), (9, .int (nI j))]) hx hb dX6_split_205 hl (by decide) rfl (fun ls hl => ?_)
                              refine lv_iinc (v := nI (j + 1)) (lv' := [(9, .int (nI (j + 1))), (8, .int (nI j)), (0, .ref (ad 0)), (6, .long X.2)]) hx hb dX6_split_207 hl (k := 3) rfl (nI_inc _) (by decide) rfl (fun ls hl => ?_)
                              refine lv_goto (tgt := 162) hx hb dX6_split_210 (by decide) ?_
                              have e9 : nI j = mbest X.1 (j + 1) := by first | rfl | (simp only [mbest, c_4, c_5, c_6, not_true_eq_false, not_false_eq_true, decide_true, decide_false, Bool.not_true, Bool.not_false, Bool.true_and, Bool.and_true, Bool.false_and, Bool.and_false, Bool.or_true, Bool.true_or, Bool.or_false, Bool.false_or, Bool.false_eq_true, Bool.true_eq_false, if_true, if_false, ↓reduceIte]; done)
                              try rw [e9] at hl
                              exact ih_162 (j + 1) (by omega) (by omega) _ _ _ hw (lv_sub hl [2, 3, 1, 0] rfl)
                            · skip
                              obtain ⟨q9, hq9, eq9⟩ := (mbest_n X.1 j).resolve_left c_6
                              have ec_q9 := nI_clamp (n := q9) (by omega)
                              rw [eq9] at hl
                              have nq9 : ¬ nI q9 = (-1) := eq9 ▸ c_6
                              refine lv_aload_n hx hb dX6_split_185 rfl (lv_at hl 0 rfl) ?_
                              refine wo_get hx hb hts inX6 hown hK hw 0 rfl rfl 25 (by decide) (hts _ wd_590) (fun _ h9 => h9) rfl dX6_split_186 ?_
                              refine lv_iload hx hb dX6_split_189 (lv_at hl 3 rfl) ?_
                              refine wo_lald hx hb hK hw 21 1 rfl rfl j rfl (by first | assumption | omega) (by decide) dX6_split_191 ?_
                              refine lv_aload_n hx hb dX6_split_192 rfl (lv_at hl 0 rfl) ?_
                              refine wo_get hx hb hts inX6 hown hK hw 0 rfl rfl 25 (by decide) (hts _ wd_590) (fun _ h9 => h9) rfl dX6_split_193 ?_
                              refine lv_iload hx hb dX6_split_196 (lv_at hl 2 rfl) ?_
                              refine wo_lald hx hb hK hw 21 1 rfl rfl q9 rfl (by first | assumption | omega) (by decide) dX6_split_198 ?_
                              refine lc_le (tgt := 207) hx hb dX6_split_199 dX6_split_200 (by decide) (fun c_7 => ?_) (fun c_7 => ?_)
                              · skip
                                refine lv_iinc (v := nI (j + 1)) (lv' := [(9, .int (nI (j + 1))), (0, .ref (ad 0)), (6, .long X.2), (8, .int (nI q9))]) hx hb dX6_split_207 hl (k := 3) rfl (nI_inc _) (by decide) rfl (fun ls hl => ?_)
                                refine lv_goto (tgt := 162) hx hb dX6_split_210 (by decide) ?_
                                have e9 : nI q9 = mbest X.1 (j + 1) := by first | rfl | (simp only [mbest, c_4, c_5, eq9, nq9, ec_q9, c_7, not_true_eq_false, not_false_eq_true, decide_true, decide_false, Bool.not_true, Bool.not_false, Bool.true_and, Bool.and_true, Bool.false_and, Bool.and_false, Bool.or_true, Bool.true_or, Bool.or_false, Bool.false_or, Bool.false_eq_true, Bool.true_eq_false, if_true, if_false, ↓reduceIte]; done)
                                try rw [e9] at hl
                                exact ih_162 (j + 1) (by omega) (by omega) _ _ _ hw (lv_sub hl [1, 2, 3, 0] rfl)
                              · skip
                                refine lv_iload hx hb dX6_split_203 (lv_at hl 3 rfl) ?_
                                refine lv_istore (lv' := [(8, .int (nI j)), (0, .ref (ad 0)), (6, .long X.2), (9, .int (nI j))]) hx hb dX6_split_205 hl (by decide) rfl (fun ls hl => ?_)
                                refine lv_iinc (v := nI (j + 1)) (lv' := [(9, .int (nI (j + 1))), (8, .int (nI j)), (0, .ref (ad 0)), (6, .long X.2)]) hx hb dX6_split_207 hl (k := 3) rfl (nI_inc _) (by decide) rfl (fun ls hl => ?_)
                                refine lv_goto (tgt := 162) hx hb dX6_split_210 (by decide) ?_
                                have e9 : nI j = mbest X.1 (j + 1) := by first | rfl | (simp only [mbest, c_4, c_5, eq9, nq9, ec_q9, c_7, not_true_eq_false, not_false_eq_true, decide_true, decide_false, Bool.not_true, Bool.not_false, Bool.true_and, Bool.and_true, Bool.false_and, Bool.and_false, Bool.or_true, Bool.true_or, Bool.or_false, Bool.false_or, Bool.false_eq_true, Bool.true_eq_false, if_true, if_false, ↓reduceIte]; done)
                                try rw [e9] at hl
                                exact ih_162 (j + 1) (by omega) (by omega) _ _ _ hw (lv_sub hl [2, 3, 1, 0] rfl)
                    have e9 : (-1) = mbest X.1 0 := by first | rfl | (simp only [mbest, c_3, not_true_eq_false, not_false_eq_true, decide_true, decide_false, Bool.not_true, Bool.not_false, Bool.true_and, Bool.and_true, Bool.false_and, Bool.and_false, Bool.or_true, Bool.true_or, Bool.or_false, Bool.false_or, Bool.false_eq_true, Bool.true_eq_false, if_true, if_false, ↓reduceIte]; done)
                    try rw [e9] at hl
                    exact lp_162 7 0 (by omega) (by omega) _ _ _ hw (lv_sub hl [2, 3, 1, 0] rfl)
              exact lp_149 7 0 (mspl1 S room (mall S b0 6) b0 6) (by omega) (by omega) hok0 rfl _ _ _ hw (lv_sub hl [0, 4] rfl)
            · skip
              have c_2 : ¬ (6 ≤ i) := fun h9 => c_2 ((nI_leI (a := 6) (b := i) (by omega) (by omega)).mpr h9)
              refine lv_aload_n hx hb dX6_split_65 rfl (lv_at hl 0 rfl) ?_
              refine lv_iload hx hb dX6_split_66 (lv_at hl 5 rfl) ?_
              refine wo_vI (As := [.int (nI i)]) (rest := []) (kX6_isWell l dC dI ca ad ((mspl1 S room (mall S b0 6) b0 i).1) (nI i)) ⟨hx, hb, hml, hown, hts⟩ (cwV 1 hts (wa_gV wd_655 wd_657 ws_13 wd_8 wd_658) rfl rfl rfl (by decide +kernel) ⟨Nat.le_of_ble_eq_true rfl, Nat.le_of_ble_eq_true rfl⟩) hK hw hA 0 rfl rfl rfl rfl hl.1 rfl (Nat.le_of_ble_eq_true rfl) dX6_split_68 ⟨Nat.zero_le _, Nat.zero_le _⟩ (fun r_8 S_8 H locs hp_8 hw => ?_)
              have e9 := hp_8.1.symm
              subst e9
              have e9 := hp_8.2.symm
              subst e9
              refine lv_if_eq (tgt := 92) hx hb dX6_split_71 (by decide) (fun c_9 => ?_) (fun c_9 => ?_)
              · skip
                have c_9 : mwl ((mspl1 S room (mall S b0 6) b0 i).1) (nI i) = false := nb_0 c_9
                have ho : mown (mspl1 S room (mall S b0 6) b0 i).1 b0 i = 0 := by unfold mown; rw [if_pos c_9]
                refine lv_lconst (v := 0) hx hb dX6_split_92 (by decide) ?_
                refine lv_lstore (lv' := [(9, .long 0), (0, .ref (ad 0)), (1, .long room), (3, .int (bI b0)), (4, .long (mall S b0 6)), (6, .long ((mspl1 S room (mall S b0 6) b0 i).2)), (8, .int (nI i))]) hx hb dX6_split_93 hl (by decide) rfl (fun ls hl => ?_)
                refine lv_aload_n hx hb dX6_split_95 rfl (lv_at hl 1 rfl) ?_
                refine wo_get hx hb hts inX6 hown hK hw 0 rfl rfl 24 (by decide) (hts _ wd_589) (fun _ h9 => h9) rfl dX6_split_96 ?_
                refine lv_iload hx hb dX6_split_99 (lv_at hl 6 rfl) ?_
                refine lv_lload_n hx hb dX6_split_101 rfl (lv_at hl 2 rfl) ?_
                refine lv_lload hx hb dX6_split_102 (lv_at hl 0 rfl) ?_
                refine lv_lmul hx hb dX6_split_104 ?_
                refine lv_lload hx hb dX6_split_105 (lv_at hl 4 rfl) ?_
                refine lv_ldiv hx hb dX6_split_107 (by first | assumption | omega) ?_
                refine wo_last hx hb hK hw 20 1 rfl rfl i rfl (by first | assumption | omega) (by decide) (sm_20 ca ad ((mspl1 S room (mall S b0 6) b0 i).1) i ((room * 0) / (mall S b0 6))) dX6_split_108 (fun H locs hw => ?_)
                refine lv_aload_n hx hb dX6_split_109 rfl (lv_at hl 1 rfl) ?_
                refine wo_get hx hb hts inX6 hown hK hw 0 rfl rfl 25 (by decide) (hts _ wd_590) (fun _ h9 => h9) rfl dX6_split_110 ?_
                refine lv_iload hx hb dX6_split_113 (lv_at hl 6 rfl) ?_
                refine lv_lload_n hx hb dX6_split_115 rfl (lv_at hl 2 rfl) ?_
                refine lv_lload hx hb dX6_split_116 (lv_at hl 0 rfl) ?_
                refine lv_lmul hx hb dX6_split_118 ?_
                refine lv_lload hx hb dX6_split_119 (lv_at hl 4 rfl) ?_
                refine lv_lrem hx hb dX6_split_121 (by first | assumption | omega) ?_
                refine wo_last hx hb hK hw 21 1 rfl rfl i rfl (by first | assumption | omega) (by decide) (sm_21 ca ad (sL ((mspl1 S room (mall S b0 6) b0 i).1) 20 i ((room * 0) / (mall S b0 6))) i ((room * 0) - (room * 0) / (mall S b0 6) * (mall S b0 6))) dX6_split_122 (fun H locs hw => ?_)
                refine lv_aload_n hx hb dX6_split_123 rfl (lv_at hl 1 rfl) ?_
                refine wo_get hx hb hts inX6 hown hK hw 0 rfl rfl 26 (by decide) (hts _ wd_591) (fun _ h9 => h9) rfl dX6_split_124 ?_
                refine lv_iload hx hb dX6_split_127 (lv_at hl 6 rfl) ?_
                refine lv_iconst (v := nI 0) hx hb dX6_split_129 (by decide) ?_
                refine wo_zast hx hb hK hw 22 2 rfl rfl i rfl (by first | assumption | omega) (by decide) (by first | decide | assumption | exact nb_v _) (sm_22 ca ad (sL (sL ((mspl1 S room (mall S b0 6) b0 i).1) 20 i ((room * 0) / (mall S b0 6))) 21 i ((room * 0) - (room * 0) / (mall S b0 6) * (mall S b0 6))) i (nI 0)) dX6_split_130 (fun H locs hw => ?_)
                refine lv_lload hx hb dX6_split_131 (lv_at hl 5 rfl) ?_
                refine lv_aload_n hx hb dX6_split_133 rfl (lv_at hl 1 rfl) ?_
                refine wo_get hx hb hts inX6 hown hK hw 0 rfl rfl 24 (by decide) (hts _ wd_589) (fun _ h9 => h9) rfl dX6_split_134 ?_
                refine lv_iload hx hb dX6_split_137 (lv_at hl 6 rfl) ?_
                refine wo_lald hx hb hK hw 20 1 rfl rfl i rfl (by first | assumption | omega) (by decide) dX6_split_139 ?_
                refine lv_lsub hx hb dX6_split_140 ?_
                refine lv_lstore (lv' := [(6, .long (((mspl1 S room (mall S b0 6) b0 i).2) - ((sI (sL (sL ((mspl1 S room (mall S b0 6) b0 i).1) 20 i ((room * 0) / (mall S b0 6))) 21 i ((room * 0) - (room * 0) / (mall S b0 6) * (mall S b0 6))) 22 i (nI 0)).2 20 i))), (9, .long 0), (0, .ref (ad 0)), (1, .long room), (3, .int (bI b0)), (4, .long (mall S b0 6)), (8, .int (nI i))]) hx hb dX6_split_141 hl (by decide) rfl (fun ls hl => ?_)
                refine lv_iinc (v := nI (i + 1)) (lv' := [(8, .int (nI (i + 1))), (6, .long (((mspl1 S room (mall S b0 6) b0 i).2) - ((sI (sL (sL ((mspl1 S room (mall S b0 6) b0 i).1) 20 i ((room * 0) / (mall S b0 6))) 21 i ((room * 0) - (room * 0) / (mall S b0 6) * (mall S b0 6))) 22 i (nI 0)).2 20 i))), (9, .long 0), (0, .ref (ad 0)), (1, .long room), (3, .int (bI b0)), (4, .long (mall S b0 6))]) hx hb dX6_split_143 hl (k := 6) rfl (nI_inc _) (by decide) rfl (fun ls hl => ?_)
                refine lv_goto (tgt := 58) hx hb dX6_split_146 (by decide) ?_
                have e9 : ((mspl1 S room (mall S b0 6) b0 i).2) - ((sI (sL (sL ((mspl1 S room (mall S b0 6) b0 i).1) 20 i ((room * 0) / (mall S b0 6))) 21 i ((room * 0) - (room * 0) / (mall S b0 6) * (mall S b0 6))) 22 i (nI 0)).2 20 i) = (mspl1 S room (mall S b0 6) b0 (i + 1)).2 := by simp only [mspl1, msp1, ho]
                try rw [e9] at hl
                have e9 : sI (sL (sL ((mspl1 S room (mall S b0 6) b0 i).1) 20 i ((room * 0) / (mall S b0 6))) 21 i ((room * 0) - (room * 0) / (mall S b0 6) * (mall S b0 6))) 22 i (nI 0) = (mspl1 S room (mall S b0 6) b0 (i + 1)).1 := by simp only [mspl1, msp1, ho]
                try rw [e9] at hw
                exact ih_58 (i + 1) (by omega) (by omega) _ _ _ hw (lv_sub hl [3, 4, 5, 6, 1, 0] rfl)
              · skip
                have c_9 : mwl ((mspl1 S room (mall S b0 6) b0 i).1) (nI i) = true := nb_1 c_9
                refine lv_iload_n hx hb dX6_split_74 rfl (lv_at hl 2 rfl) ?_
                refine lv_if_eq (tgt := 82) hx hb dX6_split_75 (by decide) (fun c_10 => ?_) (fun c_10 => ?_)
                · skip
                  have c_10 : b0 = false := nb_0 c_10
                  have ho : mown (mspl1 S room (mall S b0 6) b0 i).1 b0 i = (mspl1 S room (mall S b0 6) b0 i).1.2 5 i := by unfold mown; rw [if_neg (by rw [c_9]; decide), if_pos c_10]
                  refine lv_aload_n hx hb dX6_split_82 rfl (lv_at hl 0 rfl) ?_
                  refine wo_get hx hb hts inX6 hown hK hw 0 rfl rfl 6 (by decide) (hts _ wd_571) (fun _ h9 => h9) rfl dX6_split_83 ?_
                  refine lv_iload hx hb dX6_split_86 (lv_at hl 5 rfl) ?_
                  refine wo_lald hx hb hK hw 5 1 rfl rfl i rfl (by first | assumption | omega) (by decide) dX6_split_88 ?_
                  refine lv_goto (tgt := 93) hx hb dX6_split_89 (by decide) ?_
                  refine lv_lstore (lv' := [(9, .long (((mspl1 S room (mall S b0 6) b0 i).1).2 5 i)), (0, .ref (ad 0)), (1, .long room), (3, .int (bI b0)), (4, .long (mall S b0 6)), (6, .long ((mspl1 S room (mall S b0 6) b0 i).2)), (8, .int (nI i))]) hx hb dX6_split_93 hl (by decide) rfl (fun ls hl => ?_)
                  refine lv_aload_n hx hb dX6_split_95 rfl (lv_at hl 1 rfl) ?_
                  refine wo_get hx hb hts inX6 hown hK hw 0 rfl rfl 24 (by decide) (hts _ wd_589) (fun _ h9 => h9) rfl dX6_split_96 ?_
                  refine lv_iload hx hb dX6_split_99 (lv_at hl 6 rfl) ?_
                  refine lv_lload_n hx hb dX6_split_101 rfl (lv_at hl 2 rfl) ?_
                  refine lv_lload hx hb dX6_split_102 (lv_at hl 0 rfl) ?_
                  refine lv_lmul hx hb dX6_split_104 ?_
                  refine lv_lload hx hb dX6_split_105 (lv_at hl 4 rfl) ?_
                  refine lv_ldiv hx hb dX6_split_107 (by first | assumption | omega) ?_
                  refine wo_last hx hb hK hw 20 1 rfl rfl i rfl (by first | assumption | omega) (by decide) (sm_20 ca ad ((mspl1 S room (mall S b0 6) b0 i).1) i ((room * (((mspl1 S room (mall S b0 6) b0 i).1).2 5 i)) / (mall S b0 6))) dX6_split_108 (fun H locs hw => ?_)
                  refine lv_aload_n hx hb dX6_split_109 rfl (lv_at hl 1 rfl) ?_
                  refine wo_get hx hb hts inX6 hown hK hw 0 rfl rfl 25 (by decide) (hts _ wd_590) (fun _ h9 => h9) rfl dX6_split_110 ?_
                  refine lv_iload hx hb dX6_split_113 (lv_at hl 6 rfl) ?_
                  refine lv_lload_n hx hb dX6_split_115 rfl (lv_at hl 2 rfl) ?_
                  refine lv_lload hx hb dX6_split_116 (lv_at hl 0 rfl) ?_
                  refine lv_lmul hx hb dX6_split_118 ?_
                  refine lv_lload hx hb dX6_split_119 (lv_at hl 4 rfl) ?_
                  refine lv_lrem hx hb dX6_split_121 (by first | assumption | omega) ?_
                  refine wo_last hx hb hK hw 21 1 rfl rfl i rfl (by first | assumption | omega) (by decide) (sm_21 ca ad (sL ((mspl1 S room (mall S b0 6) b0 i).1) 20 i ((room * (((mspl1 S room (mall S b0 6) b0 i).1).2 5 i)) / (mall S b0 6))) i ((room * (((mspl1 S room (mall S b0 6) b0 i).1).2 5 i)) - (room * (((mspl1 S room (mall S b0 6) b0 i).1).2 5 i)) / (mall S b0 6) * (mall S b0 6))) dX6_split_122 (fun H locs hw => ?_)
                  refine lv_aload_n hx hb dX6_split_123 rfl (lv_at hl 1 rfl) ?_
                  refine wo_get hx hb hts inX6 hown hK hw 0 rfl rfl 26 (by decide) (hts _ wd_591) (fun _ h9 => h9) rfl dX6_split_124 ?_
                  refine lv_iload hx hb dX6_split_127 (lv_at hl 6 rfl) ?_
                  refine lv_iconst (v := nI 0) hx hb dX6_split_129 (by decide) ?_
                  refine wo_zast hx hb hK hw 22 2 rfl rfl i rfl (by first | assumption | omega) (by decide) (by first | decide | assumption | exact nb_v _) (sm_22 ca ad (sL (sL ((mspl1 S room (mall S b0 6) b0 i).1) 20 i ((room * (((mspl1 S room (mall S b0 6) b0 i).1).2 5 i)) / (mall S b0 6))) 21 i ((room * (((mspl1 S room (mall S b0 6) b0 i).1).2 5 i)) - (room * (((mspl1 S room (mall S b0 6) b0 i).1).2 5 i)) / (mall S b0 6) * (mall S b0 6))) i (nI 0)) dX6_split_130 (fun H locs hw => ?_)
                  refine lv_lload hx hb dX6_split_131 (lv_at hl 5 rfl) ?_
                  refine lv_aload_n hx hb dX6_split_133 rfl (lv_at hl 1 rfl) ?_
                  refine wo_get hx hb hts inX6 hown hK hw 0 rfl rfl 24 (by decide) (hts _ wd_589) (fun _ h9 => h9) rfl dX6_split_134 ?_
                  refine lv_iload hx hb dX6_split_137 (lv_at hl 6 rfl) ?_
                  refine wo_lald hx hb hK hw 20 1 rfl rfl i rfl (by first | assumption | omega) (by decide) dX6_split_139 ?_
                  refine lv_lsub hx hb dX6_split_140 ?_
                  refine lv_lstore (lv' := [(6, .long (((mspl1 S room (mall S b0 6) b0 i).2) - ((sI (sL (sL ((mspl1 S room (mall S b0 6) b0 i).1) 20 i ((room * (((mspl1 S room (mall S b0 6) b0 i).1).2 5 i)) / (mall S b0 6))) 21 i ((room * (((mspl1 S room (mall S b0 6) b0 i).1).2 5 i)) - (room * (((mspl1 S room (mall S b0 6) b0 i).1).2 5 i)) / (mall S b0 6) * (mall S b0 6))) 22 i (nI 0)).2 20 i))), (9, .long (((mspl1 S room (mall S b0 6) b0 i).1).2 5 i)), (0, .ref (ad 0)), (1, .long room), (3, .int (bI b0)), (4, .long (mall S b0 6)), (8, .int (nI i))]) hx hb dX6_split_141 hl (by decide) rfl (fun ls hl => ?_)
                  refine lv_iinc (v := nI (i + 1)) (lv' := [(8, .int (nI (i + 1))), (6, .long (((mspl1 S room (mall S b0 6) b0 i).2) - ((sI (sL (sL ((mspl1 S room (mall S b0 6) b0 i).1) 20 i ((room * (((mspl1 S room (mall S b0 6) b0 i).1).2 5 i)) / (mall S b0 6))) 21 i ((room * (((mspl1 S room (mall S b0 6) b0 i).1).2 5 i)) - (room * (((mspl1 S room (mall S b0 6) b0 i).1).2 5 i)) / (mall S b0 6) * (mall S b0 6))) 22 i (nI 0)).2 20 i))), (9, .long (((mspl1 S room (mall S b0 6) b0 i).1).2 5 i)), (0, .ref (ad 0)), (1, .long room), (3, .int (bI b0)), (4, .long (mall S b0 6))]) hx hb dX6_split_143 hl (k := 6) rfl (nI_inc _) (by decide) rfl (fun ls hl => ?_)
                  refine lv_goto (tgt := 58) hx hb dX6_split_146 (by decide) ?_
                  have e9 : ((mspl1 S room (mall S b0 6) b0 i).2) - ((sI (sL (sL ((mspl1 S room (mall S b0 6) b0 i).1) 20 i ((room * (((mspl1 S room (mall S b0 6) b0 i).1).2 5 i)) / (mall S b0 6))) 21 i ((room * (((mspl1 S room (mall S b0 6) b0 i).1).2 5 i)) - (room * (((mspl1 S room (mall S b0 6) b0 i).1).2 5 i)) / (mall S b0 6) * (mall S b0 6))) 22 i (nI 0)).2 20 i) = (mspl1 S room (mall S b0 6) b0 (i + 1)).2 := by simp only [mspl1, msp1, ho]
                  try rw [e9] at hl
                  have e9 : sI (sL (sL ((mspl1 S room (mall S b0 6) b0 i).1) 20 i ((room * (((mspl1 S room (mall S b0 6) b0 i).1).2 5 i)) / (mall S b0 6))) 21 i ((room * (((mspl1 S room (mall S b0 6) b0 i).1).2 5 i)) - (room * (((mspl1 S room (mall S b0 6) b0 i).1).2 5 i)) / (mall S b0 6) * (mall S b0 6))) 22 i (nI 0) = (mspl1 S room (mall S b0 6) b0 (i + 1)).1 := by simp only [mspl1, msp1, ho]
                  try rw [e9] at hw
                  exact ih_58 (i + 1) (by omega) (by omega) _ _ _ hw (lv_sub hl [3, 4, 5, 6, 1, 0] rfl)
                · skip
                  have c_10 : b0 = true := nb_1 c_10
                  have ho : mown (mspl1 S room (mall S b0 6) b0 i).1 b0 i = 1 := by unfold mown; rw [if_neg (by rw [c_9]; decide), if_neg (by rw [c_10]; decide)]
                  refine lv_lconst (v := 1) hx hb dX6_split_78 (by decide) ?_
                  refine lv_goto (tgt := 93) hx hb dX6_split_79 (by decide) ?_
                  refine lv_lstore (lv' := [(9, .long 1), (0, .ref (ad 0)), (1, .long room), (3, .int (bI b0)), (4, .long (mall S b0 6)), (6, .long ((mspl1 S room (mall S b0 6) b0 i).2)), (8, .int (nI i))]) hx hb dX6_split_93 hl (by decide) rfl (fun ls hl => ?_)
                  refine lv_aload_n hx hb dX6_split_95 rfl (lv_at hl 1 rfl) ?_
                  refine wo_get hx hb hts inX6 hown hK hw 0 rfl rfl 24 (by decide) (hts _ wd_589) (fun _ h9 => h9) rfl dX6_split_96 ?_
                  refine lv_iload hx hb dX6_split_99 (lv_at hl 6 rfl) ?_
                  refine lv_lload_n hx hb dX6_split_101 rfl (lv_at hl 2 rfl) ?_
                  refine lv_lload hx hb dX6_split_102 (lv_at hl 0 rfl) ?_
                  refine lv_lmul hx hb dX6_split_104 ?_
                  refine lv_lload hx hb dX6_split_105 (lv_at hl 4 rfl) ?_
                  refine lv_ldiv hx hb dX6_split_107 (by first | assumption | omega) ?_
                  refine wo_last hx hb hK hw 20 1 rfl rfl i rfl (by first | assumption | omega) (by decide) (sm_20 ca ad ((mspl1 S room (mall S b0 6) b0 i).1) i ((room * 1) / (mall S b0 6))) dX6_split_108 (fun H locs hw => ?_)
                  refine lv_aload_n hx hb dX6_split_109 rfl (lv_at hl 1 rfl) ?_
                  refine wo_get hx hb hts inX6 hown hK hw 0 rfl rfl 25 (by decide) (hts _ wd_590) (fun _ h9 => h9) rfl dX6_split_110 ?_
                  refine lv_iload hx hb dX6_split_113 (lv_at hl 6 rfl) ?_
                  refine lv_lload_n hx hb dX6_split_115 rfl (lv_at hl 2 rfl) ?_
                  refine lv_lload hx hb dX6_split_116 (lv_at hl 0 rfl) ?_
                  refine lv_lmul hx hb dX6_split_118 ?_
                  refine lv_lload hx hb dX6_split_119 (lv_at hl 4 rfl) ?_
                  refine lv_lrem hx hb dX6_split_121 (by first | assumption | omega) ?_
                  refine wo_last hx hb hK hw 21 1 rfl rfl i rfl (by first | assumption | omega) (by decide) (sm_21 ca ad (sL ((mspl1 S room (mall S b0 6) b0 i).1) 20 i ((room * 1) / (mall S b0 6))) i ((room * 1) - (room * 1) / (mall S b0 6) * (mall S b0 6))) dX6_split_122 (fun H locs hw => ?_)
                  refine lv_aload_n hx hb dX6_split_123 rfl (lv_at hl 1 rfl) ?_
                  refine wo_get hx hb hts inX6 hown hK hw 0 rfl rfl 26 (by decide) (hts _ wd_591) (fun _ h9 => h9) rfl dX6_split_124 ?_
                  refine lv_iload hx hb dX6_split_127 (lv_at hl 6 rfl) ?_
                  refine lv_iconst (v := nI 0) hx hb dX6_split_129 (by decide) ?_
                  refine wo_zast hx hb hK hw 22 2 rfl rfl i rfl (by first | assumption | omega) (by decide) (by first | decide | assumption | exact nb_v _) (sm_22 ca ad (sL (sL ((mspl1 S room (mall S b0 6) b0 i).1) 20 i ((room * 1) / (mall S b0 6))) 21 i ((room * 1) - (room * 1) / (mall S b0 6) * (mall S b0 6))) i (nI 0)) dX6_split_130 (fun H locs hw => ?_)
                  refine lv_lload hx hb dX6_split_131 (lv_at hl 5 rfl) ?_
                  refine lv_aload_n hx hb dX6_split_133 rfl (lv_at hl 1 rfl) ?_
                  refine wo_get hx hb hts inX6 hown hK hw 0 rfl rfl 24 (by decide) (hts _ wd_589) (fun _ h9 => h9) rfl dX6_split_134 ?_
                  refine lv_iload hx hb dX6_split_137 (lv_at hl 6 rfl) ?_
                  refine wo_lald hx hb hK hw 20 1 rfl rfl i rfl (by first | assumption | omega) (by decide) dX6_split_139 ?_
                  refine lv_lsub hx hb dX6_split_140 ?_
                  refine lv_lstore (lv' := [(6, .long (((mspl1 S room (mall S b0 6) b0 i).2) - ((sI (sL (sL ((mspl1 S room (mall S b0 6) b0 i).1) 20 i ((room * 1) / (mall S b0 6))) 21 i ((room * 1) - (room * 1) / (mall S b0 6) * (mall S b0 6))) 22 i (nI 0)).2 20 i))), (9, .long 1), (0, .ref (ad 0)), (1, .long room), (3, .int (bI b0)), (4, .long (mall S b0 6)), (8, .int (nI i))]) hx hb dX6_split_141 hl (by decide) rfl (fun ls hl => ?_)
                  refine lv_iinc (v := nI (i + 1)) (lv' := [(8, .int (nI (i + 1))), (6, .long (((mspl1 S room (mall S b0 6) b0 i).2) - ((sI (sL (sL ((mspl1 S room (mall S b0 6) b0 i).1) 20 i ((room * 1) / (mall S b0 6))) 21 i ((room * 1) - (room * 1) / (mall S b0 6) * (mall S b0 6))) 22 i (nI 0)).2 20 i))), (9, .long 1), (0, .ref (ad 0)), (1, .long room), (3, .int (bI b0)), (4, .long (mall S b0 6))]) hx hb dX6_split_143 hl (k := 6) rfl (nI_inc _) (by decide) rfl (fun ls hl => ?_)
                  refine lv_goto (tgt := 58) hx hb dX6_split_146 (by decide) ?_
                  have e9 : ((mspl1 S room (mall S b0 6) b0 i).2) - ((sI (sL (sL ((mspl1 S room (mall S b0 6) b0 i).1) 20 i ((room * 1) / (mall S b0 6))) 21 i ((room * 1) - (room * 1) / (mall S b0 6) * (mall S b0 6))) 22 i (nI 0)).2 20 i) = (mspl1 S room (mall S b0 6) b0 (i + 1)).2 := by simp only [mspl1, msp1, ho]
                  try rw [e9] at hl
                  have e9 : sI (sL (sL ((mspl1 S room (mall S b0 6) b0 i).1) 20 i ((room * 1) / (mall S b0 6))) 21 i ((room * 1) - (room * 1) / (mall S b0 6) * (mall S b0 6))) 22 i (nI 0) = (mspl1 S room (mall S b0 6) b0 (i + 1)).1 := by simp only [mspl1, msp1, ho]
                  try rw [e9] at hw
                  exact ih_58 (i + 1) (by omega) (by omega) _ _ _ hw (lv_sub hl [3, 4, 5, 6, 1, 0] rfl)
        have e9 : room = (mspl1 S room (mall S b0 6) b0 0).2 := rfl
        try rw [e9] at hl
        have e9 : S = (mspl1 S room (mall S b0 6) b0 0).1 := rfl
        try rw [e9] at hw
        exact lp_58 7 0 (by omega) (by omega) _ _ _ hw (lv_sub hl [2, 3, 4, 5, 1, 0] rfl)
      · skip
        have c_1 : ¬ (6 ≤ i) := fun h9 => c_1 ((nI_leI (a := 6) (b := i) (by omega) (by omega)).mpr h9)
        refine lv_lload hx hb dX6_split_13 (lv_at hl 3 rfl) ?_
        refine lv_aload_n hx hb dX6_split_15 rfl (lv_at hl 0 rfl) ?_
        refine lv_iload hx hb dX6_split_16 (lv_at hl 4 rfl) ?_
        refine wo_vI (As := [.int (nI i)]) (rest := [.long (mall S b0 i)]) (kX6_isWell l dC dI ca ad S (nI i)) ⟨hx, hb, hml, hown, hts⟩ (cwV 1 hts (wa_gV wd_655 wd_657 ws_13 wd_8 wd_658) rfl rfl rfl (by decide +kernel) ⟨Nat.le_of_ble_eq_true rfl, Nat.le_of_ble_eq_true rfl⟩) hK hw hA 0 rfl rfl rfl rfl hl.1 rfl (Nat.le_of_ble_eq_true rfl) dX6_split_18 ⟨Nat.zero_le _, Nat.zero_le _⟩ (fun r_11 S_11 H locs hp_11 hw => ?_)
        have e9 := hp_11.1.symm
        subst e9
        have e9 := hp_11.2.symm
        subst e9
        refine lv_if_eq (tgt := 42) hx hb dX6_split_21 (by decide) (fun c_12 => ?_) (fun c_12 => ?_)
        · skip
          have c_12 : mwl S (nI i) = false := nb_0 c_12
          refine lv_lconst (v := 0) hx hb dX6_split_42 (by decide) ?_
          refine lv_ladd hx hb dX6_split_43 ?_
          refine lv_lstore (lv' := [(4, .long ((mall S b0 i) + 0)), (0, .ref (ad 0)), (1, .long room), (3, .int (bI b0)), (6, .int (nI i))]) hx hb dX6_split_44 hl (by decide) rfl (fun ls hl => ?_)
          refine lv_iinc (v := nI (i + 1)) (lv' := [(6, .int (nI (i + 1))), (4, .long ((mall S b0 i) + 0)), (0, .ref (ad 0)), (1, .long room), (3, .int (bI b0))]) hx hb dX6_split_46 hl (k := 4) rfl (nI_inc _) (by decide) rfl (fun ls hl => ?_)
          refine lv_goto (tgt := 6) hx hb dX6_split_49 (by decide) ?_
          have e9 : (mall S b0 i) + 0 = mall S b0 (i + 1) := by first | rfl | (simp only [mall, mown, c_1, c_12, decide_true, decide_false, Bool.not_true, Bool.not_false, Bool.true_and, Bool.and_true, Bool.false_and, Bool.and_false, Bool.or_true, Bool.true_or, Bool.or_false, Bool.false_or, Bool.false_eq_true, Bool.true_eq_false, if_true, if_false, ↓reduceIte]; done)
          try rw [e9] at hl
          exact ih_6 (i + 1) (by omega) (by omega) _ _ _ hw (lv_sub hl [2, 3, 4, 1, 0] rfl)
        · skip
          have c_12 : mwl S (nI i) = true := nb_1 c_12
          refine lv_iload_n hx hb dX6_split_24 rfl (lv_at hl 2 rfl) ?_
          refine lv_if_eq (tgt := 32) hx hb dX6_split_25 (by decide) (fun c_13 => ?_) (fun c_13 => ?_)
          · skip
            have c_13 : b0 = false := nb_0 c_13
            refine lv_aload_n hx hb dX6_split_32 rfl (lv_at hl 0 rfl) ?_
            refine wo_get hx hb hts inX6 hown hK hw 0 rfl rfl 6 (by decide) (hts _ wd_571) (fun _ h9 => h9) rfl dX6_split_33 ?_
            refine lv_iload hx hb dX6_split_36 (lv_at hl 4 rfl) ?_
            refine wo_lald hx hb hK hw 5 1 rfl rfl i rfl (by first | assumption | omega) (by decide) dX6_split_38 ?_
            refine lv_goto (tgt := 43) hx hb dX6_split_39 (by decide) ?_
            refine lv_ladd hx hb dX6_split_43 ?_
            refine lv_lstore (lv' := [(4, .long ((mall S b0 i) + (S.2 5 i))), (0, .ref (ad 0)), (1, .long room), (3, .int (bI b0)), (6, .int (nI i))]) hx hb dX6_split_44 hl (by decide) rfl (fun ls hl => ?_)
            refine lv_iinc (v := nI (i + 1)) (lv' := [(6, .int (nI (i + 1))), (4, .long ((mall S b0 i) + (S.2 5 i))), (0, .ref (ad 0)), (1, .long room), (3, .int (bI b0))]) hx hb dX6_split_46 hl (k := 4) rfl (nI_inc _) (by decide) rfl (fun ls hl => ?_)
            refine lv_goto (tgt := 6) hx hb dX6_split_49 (by decide) ?_
            have e9 : (mall S b0 i) + (S.2 5 i) = mall S b0 (i + 1) := by first | rfl | (simp only [mall, mown, c_1, c_12, c_13, decide_true, decide_false, Bool.not_true, Bool.not_false, Bool.true_and, Bool.and_true, Bool.false_and, Bool.and_false, Bool.or_true, Bool.true_or, Bool.or_false, Bool.false_or, Bool.false_eq_true, Bool.true_eq_false, if_true, if_false, ↓reduceIte]; done)
            try rw [e9] at hl
            exact ih_6 (i + 1) (by omega) (by omega) _ _ _ hw (lv_sub hl [2, 3, 4, 1, 0] rfl)
          · skip
            have c_13 : b0 = true := nb_1 c_13
            refine lv_lconst (v := 1) hx hb dX6_split_28 (by decide) ?_
            refine lv_goto (tgt := 43) hx hb dX6_split_29 (by decide) ?_
            refine lv_ladd hx hb dX6_split_43 ?_
            refine lv_lstore (lv' := [(4, .long ((mall S b0 i) + 1)), (0, .ref (ad 0)), (1, .long room), (3, .int (bI b0)), (6, .int (nI i))]) hx hb dX6_split_44 hl (by decide) rfl (fun ls hl => ?_)
            refine lv_iinc (v := nI (i + 1)) (lv' := [(6, .int (nI (i + 1))), (4, .long ((mall S b0 i) + 1)), (0, .ref (ad 0)), (1, .long room), (3, .int (bI b0))]) hx hb dX6_split_46 hl (k := 4) rfl (nI_inc _) (by decide) rfl (fun ls hl => ?_)
            refine lv_goto (tgt := 6) hx hb dX6_split_49 (by decide) ?_
            have e9 : (mall S b0 i) + 1 = mall S b0 (i + 1) := by first | rfl | (simp only [mall, mown, c_1, c_12, c_13, decide_true, decide_false, Bool.not_true, Bool.not_false, Bool.true_and, Bool.and_true, Bool.false_and, Bool.and_false, Bool.or_true, Bool.true_or, Bool.or_false, Bool.false_or, Bool.false_eq_true, Bool.true_eq_false, if_true, if_false, ↓reduceIte]; done)
            try rw [e9] at hl
            exact ih_6 (i + 1) (by omega) (by omega) _ _ _ hw (lv_sub hl [2, 3, 4, 1, 0] rfl)
  have e9 : 0 = mall S b0 0 := by first | rfl | (simp only [mall, mown, decide_true, decide_false, Bool.not_true, Bool.not_false, Bool.true_and, Bool.and_true, Bool.false_and, Bool.and_false, Bool.or_true, Bool.true_or, Bool.or_false, Bool.false_or, Bool.false_eq_true, Bool.true_eq_false, if_true, if_false, ↓reduceIte]; done)
  try rw [e9] at hl
  exact lp_6 7 0 (by omega) (by omega) _ _ _ hw (lv_sub hl [2, 3, 4, 1, 0] rfl)
