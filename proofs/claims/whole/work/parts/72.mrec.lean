theorem dX6_recover_0 : decode cX6_recover 0 = .ok (.aload_n 0, 1) := by decide +kernel
theorem dX6_recover_1 : decode cX6_recover 1 = .ok (.getfield 25, 3) := by decide +kernel
theorem dX6_recover_4 : decode cX6_recover 4 = .ok (.iload_n 1, 1) := by decide +kernel
theorem dX6_recover_5 : decode cX6_recover 5 = .ok (.iconst 2, 1) := by decide +kernel
theorem dX6_recover_6 : decode cX6_recover 6 = .ok (.iastore, 1) := by decide +kernel
theorem dX6_recover_7 : decode cX6_recover 7 = .ok (.iconst 0, 1) := by decide +kernel
theorem dX6_recover_8 : decode cX6_recover 8 = .ok (.istore_n 2, 1) := by decide +kernel
theorem dX6_recover_9 : decode cX6_recover 9 = .ok (.iload_n 2, 1) := by decide +kernel
theorem dX6_recover_10 : decode cX6_recover 10 = .ok (.aload_n 0, 1) := by decide +kernel
theorem dX6_recover_11 : decode cX6_recover 11 = .ok (.getfield 88, 3) := by decide +kernel
theorem dX6_recover_14 : decode cX6_recover 14 = .ok (.if_icmp .ge 227, 3) := by decide +kernel
theorem dX6_recover_17 : decode cX6_recover 17 = .ok (.iconst 0, 1) := by decide +kernel
theorem dX6_recover_18 : decode cX6_recover 18 = .ok (.istore_n 3, 1) := by decide +kernel
theorem dX6_recover_19 : decode cX6_recover 19 = .ok (.iload_n 3, 1) := by decide +kernel
theorem dX6_recover_20 : decode cX6_recover 20 = .ok (.iconst 2, 1) := by decide +kernel
theorem dX6_recover_21 : decode cX6_recover 21 = .ok (.if_icmp .ge 214, 3) := by decide +kernel
theorem dX6_recover_24 : decode cX6_recover 24 = .ok (.aload_n 0, 1) := by decide +kernel
theorem dX6_recover_25 : decode cX6_recover 25 = .ok (.getfield 19, 3) := by decide +kernel
theorem dX6_recover_28 : decode cX6_recover 28 = .ok (.iload_n 2, 1) := by decide +kernel
theorem dX6_recover_29 : decode cX6_recover 29 = .ok (.iload_n 3, 1) := by decide +kernel
theorem dX6_recover_30 : decode cX6_recover 30 = .ok (.iload_n 1, 1) := by decide +kernel
theorem dX6_recover_31 : decode cX6_recover 31 = .ok (.invokestatic 111, 3) := by decide +kernel
theorem dX6_recover_34 : decode cX6_recover 34 = .ok (.laload, 1) := by decide +kernel
theorem dX6_recover_35 : decode cX6_recover 35 = .ok (.lstore 4, 2) := by decide +kernel
theorem dX6_recover_37 : decode cX6_recover 37 = .ok (.aload_n 0, 1) := by decide +kernel
theorem dX6_recover_38 : decode cX6_recover 38 = .ok (.getfield 19, 3) := by decide +kernel
theorem dX6_recover_41 : decode cX6_recover 41 = .ok (.iload_n 2, 1) := by decide +kernel
theorem dX6_recover_42 : decode cX6_recover 42 = .ok (.iload_n 3, 1) := by decide +kernel
theorem dX6_recover_43 : decode cX6_recover 43 = .ok (.iload_n 1, 1) := by decide +kernel
theorem dX6_recover_44 : decode cX6_recover 44 = .ok (.invokestatic 111, 3) := by decide +kernel
theorem dX6_recover_47 : decode cX6_recover 47 = .ok (.lconst 0, 1) := by decide +kernel
theorem dX6_recover_48 : decode cX6_recover 48 = .ok (.lastore, 1) := by decide +kernel
theorem dX6_recover_49 : decode cX6_recover 49 = .ok (.iconst 1, 1) := by decide +kernel
theorem dX6_recover_50 : decode cX6_recover 50 = .ok (.istore 6, 2) := by decide +kernel
theorem dX6_recover_52 : decode cX6_recover 52 = .ok (.iload 6, 2) := by decide +kernel
theorem dX6_recover_54 : decode cX6_recover 54 = .ok (.aload_n 0, 1) := by decide +kernel
theorem dX6_recover_55 : decode cX6_recover 55 = .ok (.getfield 130, 3) := by decide +kernel
theorem dX6_recover_58 : decode cX6_recover 58 = .ok (.if_icmp .gt 105, 3) := by decide +kernel
theorem dX6_recover_61 : decode cX6_recover 61 = .ok (.aload_n 0, 1) := by decide +kernel
theorem dX6_recover_62 : decode cX6_recover 62 = .ok (.getfield 45, 3) := by decide +kernel
theorem dX6_recover_65 : decode cX6_recover 65 = .ok (.iload 6, 2) := by decide +kernel
theorem dX6_recover_67 : decode cX6_recover 67 = .ok (.iaload, 1) := by decide +kernel
theorem dX6_recover_68 : decode cX6_recover 68 = .ok (.iload_n 2, 1) := by decide +kernel
theorem dX6_recover_69 : decode cX6_recover 69 = .ok (.if_icmp .ne 88, 3) := by decide +kernel
theorem dX6_recover_72 : decode cX6_recover 72 = .ok (.aload_n 0, 1) := by decide +kernel
theorem dX6_recover_73 : decode cX6_recover 73 = .ok (.getfield 48, 3) := by decide +kernel
theorem dX6_recover_76 : decode cX6_recover 76 = .ok (.iload 6, 2) := by decide +kernel
theorem dX6_recover_78 : decode cX6_recover 78 = .ok (.iaload, 1) := by decide +kernel
theorem dX6_recover_79 : decode cX6_recover 79 = .ok (.iload_n 3, 1) := by decide +kernel
theorem dX6_recover_80 : decode cX6_recover 80 = .ok (.if_icmp .ne 77, 3) := by decide +kernel
theorem dX6_recover_83 : decode cX6_recover 83 = .ok (.aload_n 0, 1) := by decide +kernel
theorem dX6_recover_84 : decode cX6_recover 84 = .ok (.getfield 60, 3) := by decide +kernel
theorem dX6_recover_87 : decode cX6_recover 87 = .ok (.iload 6, 2) := by decide +kernel
theorem dX6_recover_89 : decode cX6_recover 89 = .ok (.iaload, 1) := by decide +kernel
theorem dX6_recover_90 : decode cX6_recover 90 = .ok (.iconst 1, 1) := by decide +kernel
theorem dX6_recover_91 : decode cX6_recover 91 = .ok (.if_icmp .eq 66, 3) := by decide +kernel
theorem dX6_recover_94 : decode cX6_recover 94 = .ok (.aload_n 0, 1) := by decide +kernel
theorem dX6_recover_95 : decode cX6_recover 95 = .ok (.getfield 66, 3) := by decide +kernel
theorem dX6_recover_98 : decode cX6_recover 98 = .ok (.iload 6, 2) := by decide +kernel
theorem dX6_recover_100 : decode cX6_recover 100 = .ok (.baload, 1) := by decide +kernel
theorem dX6_recover_101 : decode cX6_recover 101 = .ok (.ifCond .ne 56, 3) := by decide +kernel
theorem dX6_recover_104 : decode cX6_recover 104 = .ok (.aload_n 0, 1) := by decide +kernel
theorem dX6_recover_105 : decode cX6_recover 105 = .ok (.getfield 51, 3) := by decide +kernel
theorem dX6_recover_108 : decode cX6_recover 108 = .ok (.iload 6, 2) := by decide +kernel
theorem dX6_recover_110 : decode cX6_recover 110 = .ok (.iaload, 1) := by decide +kernel
theorem dX6_recover_111 : decode cX6_recover 111 = .ok (.iload_n 1, 1) := by decide +kernel
theorem dX6_recover_112 : decode cX6_recover 112 = .ok (.if_icmp .eq 17, 3) := by decide +kernel
theorem dX6_recover_115 : decode cX6_recover 115 = .ok (.aload_n 0, 1) := by decide +kernel
theorem dX6_recover_116 : decode cX6_recover 116 = .ok (.getfield 54, 3) := by decide +kernel
theorem dX6_recover_119 : decode cX6_recover 119 = .ok (.iload 6, 2) := by decide +kernel
theorem dX6_recover_121 : decode cX6_recover 121 = .ok (.iaload, 1) := by decide +kernel
theorem dX6_recover_122 : decode cX6_recover 122 = .ok (.iload_n 1, 1) := by decide +kernel
theorem dX6_recover_123 : decode cX6_recover 123 = .ok (.if_icmp .eq 6, 3) := by decide +kernel
theorem dX6_recover_126 : decode cX6_recover 126 = .ok (.goto 31, 3) := by decide +kernel
theorem dX6_recover_129 : decode cX6_recover 129 = .ok (.lload 4, 2) := by decide +kernel
theorem dX6_recover_131 : decode cX6_recover 131 = .ok (.aload_n 0, 1) := by decide +kernel
theorem dX6_recover_132 : decode cX6_recover 132 = .ok (.getfield 57, 3) := by decide +kernel
theorem dX6_recover_135 : decode cX6_recover 135 = .ok (.iload 6, 2) := by decide +kernel
theorem dX6_recover_137 : decode cX6_recover 137 = .ok (.laload, 1) := by decide +kernel
theorem dX6_recover_138 : decode cX6_recover 138 = .ok (.ladd, 1) := by decide +kernel
theorem dX6_recover_139 : decode cX6_recover 139 = .ok (.lstore 4, 2) := by decide +kernel
theorem dX6_recover_141 : decode cX6_recover 141 = .ok (.aload_n 0, 1) := by decide +kernel
theorem dX6_recover_142 : decode cX6_recover 142 = .ok (.getfield 60, 3) := by decide +kernel
theorem dX6_recover_145 : decode cX6_recover 145 = .ok (.iload 6, 2) := by decide +kernel
theorem dX6_recover_147 : decode cX6_recover 147 = .ok (.iconst 2, 1) := by decide +kernel
theorem dX6_recover_148 : decode cX6_recover 148 = .ok (.iastore, 1) := by decide +kernel
theorem dX6_recover_149 : decode cX6_recover 149 = .ok (.aload_n 0, 1) := by decide +kernel
theorem dX6_recover_150 : decode cX6_recover 150 = .ok (.getfield 66, 3) := by decide +kernel
theorem dX6_recover_153 : decode cX6_recover 153 = .ok (.iload 6, 2) := by decide +kernel
theorem dX6_recover_155 : decode cX6_recover 155 = .ok (.iconst 1, 1) := by decide +kernel
theorem dX6_recover_156 : decode cX6_recover 156 = .ok (.bastore, 1) := by decide +kernel
theorem dX6_recover_157 : decode cX6_recover 157 = .ok (.iinc 6 1, 3) := by decide +kernel
theorem dX6_recover_160 : decode cX6_recover 160 = .ok (.goto (-108), 3) := by decide +kernel
theorem dX6_recover_163 : decode cX6_recover 163 = .ok (.aload_n 0, 1) := by decide +kernel
theorem dX6_recover_164 : decode cX6_recover 164 = .ok (.lload 4, 2) := by decide +kernel
theorem dX6_recover_166 : decode cX6_recover 166 = .ok (.iconst 1, 1) := by decide +kernel
theorem dX6_recover_167 : decode cX6_recover 167 = .ok (.invokevirtual 107, 3) := by decide +kernel
theorem dX6_recover_170 : decode cX6_recover 170 = .ok (.iconst 0, 1) := by decide +kernel
theorem dX6_recover_171 : decode cX6_recover 171 = .ok (.istore 6, 2) := by decide +kernel
theorem dX6_recover_173 : decode cX6_recover 173 = .ok (.iload 6, 2) := by decide +kernel
theorem dX6_recover_175 : decode cX6_recover 175 = .ok (.bipush 6, 2) := by decide +kernel
theorem dX6_recover_177 : decode cX6_recover 177 = .ok (.if_icmp .ge 52, 3) := by decide +kernel
theorem dX6_recover_180 : decode cX6_recover 180 = .ok (.aload_n 0, 1) := by decide +kernel
theorem dX6_recover_181 : decode cX6_recover 181 = .ok (.getfield 69, 3) := by decide +kernel
theorem dX6_recover_184 : decode cX6_recover 184 = .ok (.iload 6, 2) := by decide +kernel
theorem dX6_recover_186 : decode cX6_recover 186 = .ok (.laload, 1) := by decide +kernel
theorem dX6_recover_187 : decode cX6_recover 187 = .ok (.lconst 0, 1) := by decide +kernel
theorem dX6_recover_188 : decode cX6_recover 188 = .ok (.lcmp, 1) := by decide +kernel
theorem dX6_recover_189 : decode cX6_recover 189 = .ok (.ifCond .ne 6, 3) := by decide +kernel
theorem dX6_recover_192 : decode cX6_recover 192 = .ok (.goto 31, 3) := by decide +kernel
theorem dX6_recover_195 : decode cX6_recover 195 = .ok (.aload_n 0, 1) := by decide +kernel
theorem dX6_recover_196 : decode cX6_recover 196 = .ok (.getfield 19, 3) := by decide +kernel
theorem dX6_recover_199 : decode cX6_recover 199 = .ok (.iload_n 2, 1) := by decide +kernel
theorem dX6_recover_200 : decode cX6_recover 200 = .ok (.iload_n 3, 1) := by decide +kernel
theorem dX6_recover_201 : decode cX6_recover 201 = .ok (.iload 6, 2) := by decide +kernel
theorem dX6_recover_203 : decode cX6_recover 203 = .ok (.invokestatic 111, 3) := by decide +kernel
theorem dX6_recover_206 : decode cX6_recover 206 = .ok (.dup2, 1) := by decide +kernel
theorem dX6_recover_207 : decode cX6_recover 207 = .ok (.laload, 1) := by decide +kernel
theorem dX6_recover_208 : decode cX6_recover 208 = .ok (.aload_n 0, 1) := by decide +kernel
theorem dX6_recover_209 : decode cX6_recover 209 = .ok (.getfield 69, 3) := by decide +kernel
theorem dX6_recover_212 : decode cX6_recover 212 = .ok (.iload 6, 2) := by decide +kernel
theorem dX6_recover_214 : decode cX6_recover 214 = .ok (.laload, 1) := by decide +kernel
theorem dX6_recover_215 : decode cX6_recover 215 = .ok (.ladd, 1) := by decide +kernel
theorem dX6_recover_216 : decode cX6_recover 216 = .ok (.lastore, 1) := by decide +kernel
theorem dX6_recover_217 : decode cX6_recover 217 = .ok (.aload_n 0, 1) := by decide +kernel
theorem dX6_recover_218 : decode cX6_recover 218 = .ok (.iload 6, 2) := by decide +kernel
theorem dX6_recover_220 : decode cX6_recover 220 = .ok (.invokevirtual 140, 3) := by decide +kernel
theorem dX6_recover_223 : decode cX6_recover 223 = .ok (.iinc 6 1, 3) := by decide +kernel
theorem dX6_recover_226 : decode cX6_recover 226 = .ok (.goto (-53), 3) := by decide +kernel
theorem dX6_recover_229 : decode cX6_recover 229 = .ok (.iinc 3 1, 3) := by decide +kernel
theorem dX6_recover_232 : decode cX6_recover 232 = .ok (.goto (-213), 3) := by decide +kernel
theorem dX6_recover_235 : decode cX6_recover 235 = .ok (.iinc 2 1, 3) := by decide +kernel
theorem dX6_recover_238 : decode cX6_recover 238 = .ok (.goto (-229), 3) := by decide +kernel
theorem dX6_recover_241 : decode cX6_recover 241 = .ok (.return_, 1) := by decide +kernel

set_option maxHeartbeats 4000000 in
set_option maxRecDepth 100000 in
theorem kX6_recover (l : Launch) (dC : Nat → ClassId) (dI : Nat → Nat → Nat) (ca : Nat → ClassId) (ad : Nat → Nat) (S : sSt) (ee : Nat) (nb : Nat) (nr : Nat) (he : ee < 6) (hb6 : nb ≤ 6) (hr2 : nr ≤ 200) (hmi : MI nb nr S) (hrec : mrecH S ee nb nr) : ct_V l yX6_recover (Cond.code yX6_recover cX6_recover 7 none :: wa_T) ({ frames := 3, cells := 0, slots := 0, locals := 76 } : Room) (dC, dI) vwCl (tyl ca) (wq ca ad) S [.ref (ad 0), .int (nI ee)] (fun S2 => S2 = mrecF S ee nb nr) := by
  refine ct_ofV (by decide) (Nat.le_of_ble_eq_true rfl) ?_
  intro p e s m below meth c A ls hx hb hr hml hts hown hlocks hK hA hw hl
  have hl : lv_has ls 7 [(0, .ref (ad 0)), (1, .int (nI ee))] := hl
  refine lv_aload_n hx hb dX6_recover_0 rfl (lv_at hl 0 rfl) ?_
  refine wo_get hx hb hts inX6 hown hK hw 0 rfl rfl 7 (by decide) (hts _ wd_572) (fun _ h9 => h9) rfl dX6_recover_1 ?_
  refine lv_iload_n hx hb dX6_recover_4 rfl (lv_at hl 1 rfl) ?_
  refine lv_iconst (v := nI 2) hx hb dX6_recover_5 (by decide) ?_
  refine wo_iast hx hb hK hw 6 0 rfl rfl ee rfl (by first | assumption | omega) (by decide) (sm_6 ca ad S ee (nI 2)) dX6_recover_6 (fun H locs hw => ?_)
  have hM0 : MI nb nr (sI S 6 ee (nI 2)) := MI_sI hmi (by omega)
  refine lv_iconst (v := nI 0) hx hb dX6_recover_7 (by decide) ?_
  refine lv_istore_n (lv' := [(2, .int (nI 0)), (0, .ref (ad 0)), (1, .int (nI ee))]) hx hb dX6_recover_8 rfl hl (by decide) rfl (fun ls hl => ?_)
  have lp_9 : ∀ (n : Nat) (i : Nat), i ≤ nb → nb + 1 ≤ i + n → ∀ (H : Heap) (locs : List Loc) (ls : Array Slot), wo_w (dC, dI) vwCl A s.heap (wq ca ad (mrecB ee nr (sI S 6 ee (nI 2)) i)) H locs → lv_has ls 7 [(0, .ref (ad 0)), (1, .int (nI ee)), (2, .int (nI i))] → W p l e ({ frames := 3, cells := 0, slots := 0, locals := 76 } : Room) s m ([.ref (ad 0), .int (nI ee)] : List Value).toArray below meth c H locs 0 0 (MQ below (va_Qv (fun S2 => S2 = mrecF S ee nb nr) (ct_B (dC, dI) vwCl (tyl ca) (wq ca ad) A) A) ([.ref (ad 0), .int (nI ee)] : List Value).toArray s 0 0 A) (F0 m 9 ls []) := by
    intro n
    induction n with
    | zero =>
      intro i hi hn
      exfalso
      omega
    | succ n ih_9 =>
      intro i hi hn H locs ls hw hl
      refine lv_iload_n hx hb dX6_recover_9 rfl (lv_at hl 2 rfl) ?_
      refine lv_aload_n hx hb dX6_recover_10 rfl (lv_at hl 0 rfl) ?_
      refine wo_get hx hb hts inX6 hown hK hw 0 rfl rfl 1 (by decide) (hts _ wd_566) (fun _ h9 => h9) rfl dX6_recover_11 ?_
      refine tp_i (y := nI nb) ((MI_mrecB hM0 i).2.1) ?_
      refine lv_icmp_ge (tgt := 241) hx hb dX6_recover_14 (by decide) (fun c_1 => ?_) (fun c_1 => ?_)
      · skip
        have c_1 : nb ≤ i := (nI_leI (a := nb) (b := i) (by omega) (by omega)).mp c_1
        obtain rfl : nb = i := by omega
        exact ct_vret (S := mrecB ee nr (sI S 6 ee (nI 2)) nb) hx hb hr hlocks hK hw (rfl) dX6_recover_241
      · skip
        have c_1 : ¬ (nb ≤ i) := fun h9 => c_1 ((nI_leI (a := nb) (b := i) (by omega) (by omega)).mpr h9)
        refine lv_iconst (v := nI 0) hx hb dX6_recover_17 (by decide) ?_
        refine lv_istore_n (lv' := [(3, .int (nI 0)), (0, .ref (ad 0)), (1, .int (nI ee)), (2, .int (nI i))]) hx hb dX6_recover_18 rfl hl (by decide) rfl (fun ls hl => ?_)
        have lp_19 : ∀ (n : Nat) (j : Nat), j ≤ 2 → 3 ≤ j + n → ∀ (H : Heap) (locs : List Loc) (ls : Array Slot), wo_w (dC, dI) vwCl A s.heap (wq ca ad (mrecS ee nr i (mrecB ee nr (sI S 6 ee (nI 2)) i) j)) H locs → lv_has ls 7 [(0, .ref (ad 0)), (1, .int (nI ee)), (2, .int (nI i)), (3, .int (nI j))] → W p l e ({ frames := 3, cells := 0, slots := 0, locals := 76 } : Room) s m ([.ref (ad 0), .int (nI ee)] : List Value).toArray below meth c H locs 0 0 (MQ below (va_Qv (fun S2 => S2 = mrecF S ee nb nr) (ct_B (dC, dI) vwCl (tyl ca) (wq ca ad) A) A) ([.ref (ad 0), .int (nI ee)] : List Value).toArray s 0 0 A) (F0 m 19 ls []) := by
          intro n
          induction n with
          | zero =>
            intro j hj hn
            exfalso
            omega
          | succ n ih_19 =>
            intro j hj hn H locs ls hw hl
            refine lv_iload_n hx hb dX6_recover_19 rfl (lv_at hl 3 rfl) ?_
            refine lv_iconst (v := nI 2) hx hb dX6_recover_20 (by decide) ?_
            refine lv_icmp_ge (tgt := 235) hx hb dX6_recover_21 (by decide) (fun c_2 => ?_) (fun c_2 => ?_)
            · skip
              have c_2 : 2 ≤ j := (nI_leI (a := 2) (b := j) (by omega) (by omega)).mp c_2
              obtain rfl : 2 = j := by omega
              refine lv_iinc (v := nI (i + 1)) (lv' := [(2, .int (nI (i + 1))), (0, .ref (ad 0)), (1, .int (nI ee)), (3, .int (nI 2))]) hx hb dX6_recover_235 hl (k := 2) rfl (nI_inc _) (by decide) rfl (fun ls hl => ?_)
              refine lv_goto (tgt := 9) hx hb dX6_recover_238 (by decide) ?_
              have e9 : mrecS ee nr i (mrecB ee nr (sI S 6 ee (nI 2)) i) 2 = mrecB ee nr (sI S 6 ee (nI 2)) (i + 1) := rfl
              try rw [e9] at hw
              exact ih_9 (i + 1) (by omega) (by omega) _ _ _ hw (lv_sub hl [1, 2, 0] rfl)
            · skip
              have c_2 : ¬ (2 ≤ j) := fun h9 => c_2 ((nI_leI (a := 2) (b := j) (by omega) (by omega)).mpr h9)
              refine lv_aload_n hx hb dX6_recover_24 rfl (lv_at hl 0 rfl) ?_
              refine wo_get hx hb hts inX6 hown hK hw 0 rfl rfl 5 (by decide) (hts _ wd_570) (fun _ h9 => h9) rfl dX6_recover_25 ?_
              refine lv_iload_n hx hb dX6_recover_28 rfl (lv_at hl 2 rfl) ?_
              refine lv_iload_n hx hb dX6_recover_29 rfl (lv_at hl 3 rfl) ?_
              refine lv_iload_n hx hb dX6_recover_30 rfl (lv_at hl 1 rfl) ?_
              refine wo_sI (As := [.int (nI i), .int (nI j), .int (nI ee)]) (rest := [.ref (ad 4)]) (kX6_at l dC dI ca ad (mrecS ee nr i (mrecB ee nr (sI S 6 ee (nI 2)) i) j) i j ee) ⟨hx, hb, hml, hown, hts⟩ (va_cwS 3 hts (wa_gS wd_680 wd_681 wd_8 wd_682) rfl rfl rfl (by decide +kernel) ⟨Nat.le_of_ble_eq_true rfl, Nat.le_of_ble_eq_true rfl⟩) hK hw hA rfl hl.1 rfl (Nat.le_of_ble_eq_true rfl) dX6_recover_31 ⟨Nat.zero_le _, Nat.zero_le _⟩ (fun r_3 S_3 H locs hp_3 hw => ?_)
              have e9 := hp_3.1.symm
              subst e9
              have e9 := hp_3.2.symm
              subst e9
              refine wo_lald hx hb hK hw 4 1 rfl rfl (12 * i + 6 * j + ee) rfl (by first | assumption | omega) (by decide) dX6_recover_34 ?_
              refine lv_lstore (lv' := [(4, .long ((mrecS ee nr i (mrecB ee nr (sI S 6 ee (nI 2)) i) j).2 4 (12 * i + 6 * j + ee))), (0, .ref (ad 0)), (1, .int (nI ee)), (2, .int (nI i)), (3, .int (nI j))]) hx hb dX6_recover_35 hl (by decide) rfl (fun ls hl => ?_)
              refine lv_aload_n hx hb dX6_recover_37 rfl (lv_at hl 1 rfl) ?_
              refine wo_get hx hb hts inX6 hown hK hw 0 rfl rfl 5 (by decide) (hts _ wd_570) (fun _ h9 => h9) rfl dX6_recover_38 ?_
              refine lv_iload_n hx hb dX6_recover_41 rfl (lv_at hl 3 rfl) ?_
              refine lv_iload_n hx hb dX6_recover_42 rfl (lv_at hl 4 rfl) ?_
              refine lv_iload_n hx hb dX6_recover_43 rfl (lv_at hl 2 rfl) ?_
              refine wo_sI (As := [.int (nI i), .int (nI j), .int (nI ee)]) (rest := [.ref (ad 4)]) (kX6_at l dC dI ca ad (mrecS ee nr i (mrecB ee nr (sI S 6 ee (nI 2)) i) j) i j ee) ⟨hx, hb, hml, hown, hts⟩ (va_cwS 3 hts (wa_gS wd_680 wd_681 wd_8 wd_682) rfl rfl rfl (by decide +kernel) ⟨Nat.le_of_ble_eq_true rfl, Nat.le_of_ble_eq_true rfl⟩) hK hw hA rfl hl.1 rfl (Nat.le_of_ble_eq_true rfl) dX6_recover_44 ⟨Nat.zero_le _, Nat.zero_le _⟩ (fun r_4 S_4 H locs hp_4 hw => ?_)
              have e9 := hp_4.1.symm
              subst e9
              have e9 := hp_4.2.symm
              subst e9
              refine lv_lconst (v := 0) hx hb dX6_recover_47 (by decide) ?_
              refine wo_last hx hb hK hw 4 1 rfl rfl (12 * i + 6 * j + ee) rfl (by first | assumption | omega) (by decide) (sm_4 ca ad (mrecS ee nr i (mrecB ee nr (sI S 6 ee (nI 2)) i) j) (12 * i + 6 * j + ee) 0) dX6_recover_48 (fun H locs hw => ?_)
              refine lv_iconst (v := nI 1) hx hb dX6_recover_49 (by decide) ?_
              refine lv_istore (lv' := [(6, .int (nI 1)), (4, .long ((mrecS ee nr i (mrecB ee nr (sI S 6 ee (nI 2)) i) j).2 4 (12 * i + 6 * j + ee))), (0, .ref (ad 0)), (1, .int (nI ee)), (2, .int (nI i)), (3, .int (nI j))]) hx hb dX6_recover_50 hl (by decide) rfl (fun ls hl => ?_)
              have lp_52 : ∀ (n : Nat) (r : Nat), r ≤ nr → nr + 1 ≤ r + n → ∀ (H : Heap) (locs : List Loc) (ls : Array Slot), wo_w (dC, dI) vwCl A s.heap (wq ca ad ((mcbk (sL (mrecS ee nr i (mrecB ee nr (sI S 6 ee (nI 2)) i) j) 4 (12 * i + 6 * j + ee) 0) ((mrecS ee nr i (mrecB ee nr (sI S 6 ee (nI 2)) i) j).2 4 (12 * i + 6 * j + ee)) ee i j r).1)) H locs → lv_has ls 7 [(0, .ref (ad 0)), (1, .int (nI ee)), (2, .int (nI i)), (3, .int (nI j)), (4, .long ((mcbk (sL (mrecS ee nr i (mrecB ee nr (sI S 6 ee (nI 2)) i) j) 4 (12 * i + 6 * j + ee) 0) ((mrecS ee nr i (mrecB ee nr (sI S 6 ee (nI 2)) i) j).2 4 (12 * i + 6 * j + ee)) ee i j r).2)), (6, .int (nI (r + 1)))] → W p l e ({ frames := 3, cells := 0, slots := 0, locals := 76 } : Room) s m ([.ref (ad 0), .int (nI ee)] : List Value).toArray below meth c H locs 0 0 (MQ below (va_Qv (fun S2 => S2 = mrecF S ee nb nr) (ct_B (dC, dI) vwCl (tyl ca) (wq ca ad) A) A) ([.ref (ad 0), .int (nI ee)] : List Value).toArray s 0 0 A) (F0 m 52 ls []) := by
                intro n
                induction n with
                | zero =>
                  intro r hr hn
                  exfalso
                  omega
                | succ n ih_52 =>
                  intro r hr hn H locs ls hw hl
                  refine lv_iload hx hb dX6_recover_52 (lv_at hl 5 rfl) ?_
                  refine lv_aload_n hx hb dX6_recover_54 rfl (lv_at hl 0 rfl) ?_
                  refine wo_get hx hb hts inX6 hown hK hw 0 rfl rfl 13 (by decide) (hts _ wd_578) (fun _ h9 => h9) rfl dX6_recover_55 ?_
                  refine tp_i (y := nI nr) ((by rw [mcbk_q _ _ _ _ _ 0 (by omega) (by omega)]; exact (MI_mrecS (MI_mrecB hM0 i) j).2.2)) ?_
                  refine lv_icmp_gt (tgt := 163) hx hb dX6_recover_58 (by decide) (fun c_5 => ?_) (fun c_5 => ?_)
                  · skip
                    have c_5 : nr < (r + 1) := (nI_ltI (a := nr) (b := r + 1) (by omega) (by omega)).mp c_5
                    obtain rfl : nr = r := by omega
                    refine lv_aload_n hx hb dX6_recover_163 rfl (lv_at hl 0 rfl) ?_
                    refine lv_lload hx hb dX6_recover_164 (lv_at hl 4 rfl) ?_
                    refine lv_iconst (v := nI 1) hx hb dX6_recover_166 (by decide) ?_
                    refine wo_vV (As := [.long ((mcbk (sL (mrecS ee nr i (mrecB ee nr (sI S 6 ee (nI 2)) i) j) 4 (12 * i + 6 * j + ee) 0) ((mrecS ee nr i (mrecB ee nr (sI S 6 ee (nI 2)) i) j).2 4 (12 * i + 6 * j + ee)) ee i j nr).2), .int (nI 1)]) (rest := []) (kX6_split l dC dI ca ad ((mcbk (sL (mrecS ee nr i (mrecB ee nr (sI S 6 ee (nI 2)) i) j) 4 (12 * i + 6 * j + ee) 0) ((mrecS ee nr i (mrecB ee nr (sI S 6 ee (nI 2)) i) j).2 4 (12 * i + 6 * j + ee)) ee i j nr).1) ((mcbk (sL (mrecS ee nr i (mrecB ee nr (sI S 6 ee (nI 2)) i) j) 4 (12 * i + 6 * j + ee) 0) ((mrecS ee nr i (mrecB ee nr (sI S 6 ee (nI 2)) i) j).2 4 (12 * i + 6 * j + ee)) ee i j nr).2) true (hrec i j (by omega) (by omega)).1 (hrec i j (by omega) (by omega)).2) ⟨hx, hb, hml, hown, hts⟩ (cwV 2 hts (wa_gV wd_676 wd_678 ws_15 wd_8 wd_679) rfl rfl rfl (by decide +kernel) ⟨Nat.le_of_ble_eq_true rfl, Nat.le_of_ble_eq_true rfl⟩) hK hw hA 0 rfl rfl rfl rfl hl.1 rfl (Nat.le_of_ble_eq_true rfl) dX6_recover_167 ⟨Nat.zero_le _, Nat.zero_le _⟩ (fun S_6 H locs hp_6 hw => ?_)
                    have eS_6 := hp_6
                    have hX0 : MI nb nr S_6 := by rw [eS_6]; exact MI_mspl (MI_mcb0 (MI_mrecS (MI_mrecB hM0 i) j)) _ _
                    refine lv_iconst (v := nI 0) hx hb dX6_recover_170 (by decide) ?_
                    refine lv_istore (lv' := [(6, .int (nI 0)), (0, .ref (ad 0)), (1, .int (nI ee)), (2, .int (nI i)), (3, .int (nI j)), (4, .long ((mcbk (sL (mrecS ee nr i (mrecB ee nr (sI S 6 ee (nI 2)) i) j) 4 (12 * i + 6 * j + ee) 0) ((mrecS ee nr i (mrecB ee nr (sI S 6 ee (nI 2)) i) j).2 4 (12 * i + 6 * j + ee)) ee i j nr).2))]) hx hb dX6_recover_171 hl (by decide) rfl (fun ls hl => ?_)
                    have lp_173 : ∀ (n : Nat) (q : Nat), q ≤ 6 → 7 ≤ q + n → ∀ (H : Heap) (locs : List Loc) (ls : Array Slot), wo_w (dC, dI) vwCl A s.heap (wq ca ad (mrcP i j S_6 q)) H locs → lv_has ls 7 [(0, .ref (ad 0)), (1, .int (nI ee)), (2, .int (nI i)), (3, .int (nI j)), (6, .int (nI q))] → W p l e ({ frames := 3, cells := 0, slots := 0, locals := 76 } : Room) s m ([.ref (ad 0), .int (nI ee)] : List Value).toArray below meth c H locs 0 0 (MQ below (va_Qv (fun S2 => S2 = mrecF S ee nb nr) (ct_B (dC, dI) vwCl (tyl ca) (wq ca ad) A) A) ([.ref (ad 0), .int (nI ee)] : List Value).toArray s 0 0 A) (F0 m 173 ls []) := by
                      intro n
                      induction n with
                      | zero =>
                        intro q hq hn
                        exfalso
                        omega
                      | succ n ih_173 =>
                        intro q hq hn H locs ls hw hl
                        refine lv_iload hx hb dX6_recover_173 (lv_at hl 4 rfl) ?_
                        refine lv_bipush (v := nI 6) hx hb dX6_recover_175 (by decide) ?_
                        refine lv_icmp_ge (tgt := 229) hx hb dX6_recover_177 (by decide) (fun c_7 => ?_) (fun c_7 => ?_)
                        · skip
                          have c_7 : 6 ≤ q := (nI_leI (a := 6) (b := q) (by omega) (by omega)).mp c_7
                          obtain rfl : 6 = q := by omega
                          refine lv_iinc (v := nI (j + 1)) (lv' := [(3, .int (nI (j + 1))), (0, .ref (ad 0)), (1, .int (nI ee)), (2, .int (nI i)), (6, .int (nI 6))]) hx hb dX6_recover_229 hl (k := 3) rfl (nI_inc _) (by decide) rfl (fun ls hl => ?_)
                          refine lv_goto (tgt := 19) hx hb dX6_recover_232 (by decide) ?_
                          have e9 : mrcP i j S_6 6 = mrecS ee nr i (mrecB ee nr (sI S 6 ee (nI 2)) i) (j + 1) := by rw [eS_6]; rfl
                          try rw [e9] at hw
                          exact ih_19 (j + 1) (by omega) (by omega) _ _ _ hw (lv_sub hl [1, 2, 3, 0] rfl)
                        · skip
                          have c_7 : ¬ (6 ≤ q) := fun h9 => c_7 ((nI_leI (a := 6) (b := q) (by omega) (by omega)).mpr h9)
                          refine lv_aload_n hx hb dX6_recover_180 rfl (lv_at hl 0 rfl) ?_
                          refine wo_get hx hb hts inX6 hown hK hw 0 rfl rfl 24 (by decide) (hts _ wd_589) (fun _ h9 => h9) rfl dX6_recover_181 ?_
                          refine lv_iload hx hb dX6_recover_184 (lv_at hl 4 rfl) ?_
                          refine wo_lald hx hb hK hw 20 1 rfl rfl q rfl (by first | assumption | omega) (by decide) dX6_recover_186 ?_
                          refine lv_lconst (v := 0) hx hb dX6_recover_187 (by decide) ?_
                          refine lc_ne (tgt := 195) hx hb dX6_recover_188 dX6_recover_189 (by decide) (fun c_8 => ?_) (fun c_8 => ?_)
                          · skip
                            refine lv_aload_n hx hb dX6_recover_195 rfl (lv_at hl 0 rfl) ?_
                            refine wo_get hx hb hts inX6 hown hK hw 0 rfl rfl 5 (by decide) (hts _ wd_570) (fun _ h9 => h9) rfl dX6_recover_196 ?_
                            refine lv_iload_n hx hb dX6_recover_199 rfl (lv_at hl 2 rfl) ?_
                            refine lv_iload_n hx hb dX6_recover_200 rfl (lv_at hl 3 rfl) ?_
                            refine lv_iload hx hb dX6_recover_201 (lv_at hl 4 rfl) ?_
                            refine wo_sI (As := [.int (nI i), .int (nI j), .int (nI q)]) (rest := [.ref (ad 4)]) (kX6_at l dC dI ca ad (mrcP i j S_6 q) i j q) ⟨hx, hb, hml, hown, hts⟩ (va_cwS 3 hts (wa_gS wd_680 wd_681 wd_8 wd_682) rfl rfl rfl (by decide +kernel) ⟨Nat.le_of_ble_eq_true rfl, Nat.le_of_ble_eq_true rfl⟩) hK hw hA rfl hl.1 rfl (Nat.le_of_ble_eq_true rfl) dX6_recover_203 ⟨Nat.zero_le _, Nat.zero_le _⟩ (fun r_9 S_9 H locs hp_9 hw => ?_)
                            have e9 := hp_9.1.symm
                            subst e9
                            have e9 := hp_9.2.symm
                            subst e9
                            refine lv_dup2_11 hx hb dX6_recover_206 rfl rfl ?_
                            refine wo_lald hx hb hK hw 4 1 rfl rfl (12 * i + 6 * j + q) rfl (by first | assumption | omega) (by decide) dX6_recover_207 ?_
                            refine lv_aload_n hx hb dX6_recover_208 rfl (lv_at hl 0 rfl) ?_
                            refine wo_get hx hb hts inX6 hown hK hw 0 rfl rfl 24 (by decide) (hts _ wd_589) (fun _ h9 => h9) rfl dX6_recover_209 ?_
                            refine lv_iload hx hb dX6_recover_212 (lv_at hl 4 rfl) ?_
                            refine wo_lald hx hb hK hw 20 1 rfl rfl q rfl (by first | assumption | omega) (by decide) dX6_recover_214 ?_
                            refine lv_ladd hx hb dX6_recover_215 ?_
                            refine wo_last hx hb hK hw 4 1 rfl rfl (12 * i + 6 * j + q) rfl (by first | assumption | omega) (by decide) (sm_4 ca ad (mrcP i j S_6 q) (12 * i + 6 * j + q) (((mrcP i j S_6 q).2 4 (12 * i + 6 * j + q)) + ((mrcP i j S_6 q).2 20 q))) dX6_recover_216 (fun H locs hw => ?_)
                            refine lv_aload_n hx hb dX6_recover_217 rfl (lv_at hl 0 rfl) ?_
                            refine lv_iload hx hb dX6_recover_218 (lv_at hl 4 rfl) ?_
                            refine wo_vV (As := [.int (nI q)]) (rest := []) (kX6_came l dC dI ca ad (sL (mrcP i j S_6 q) 4 (12 * i + 6 * j + q) (((mrcP i j S_6 q).2 4 (12 * i + 6 * j + q)) + ((mrcP i j S_6 q).2 20 q))) q nb nr (by first | assumption | omega) (MI_of (MI_mrcP hX0 q (by omega)) rfl rfl rfl rfl)) ⟨hx, hb, hml, hown, hts⟩ (cwV 1 hts (wa_gV wd_720 wd_722 ws_20 wd_8 wd_723) rfl rfl rfl (by decide +kernel) ⟨Nat.le_of_ble_eq_true rfl, Nat.le_of_ble_eq_true rfl⟩) hK hw hA 0 rfl rfl rfl rfl hl.1 rfl (Nat.le_of_ble_eq_true rfl) dX6_recover_220 ⟨Nat.zero_le _, Nat.zero_le _⟩ (fun S_10 H locs hp_10 hw => ?_)
                            have eS_10 := hp_10
                            refine lv_iinc (v := nI (q + 1)) (lv' := [(6, .int (nI (q + 1))), (0, .ref (ad 0)), (1, .int (nI ee)), (2, .int (nI i)), (3, .int (nI j))]) hx hb dX6_recover_223 hl (k := 4) rfl (nI_inc _) (by decide) rfl (fun ls hl => ?_)
                            refine lv_goto (tgt := 173) hx hb dX6_recover_226 (by decide) ?_
                            have e9 : S_10 = mrcP i j S_6 (q + 1) := by rw [eS_10]; simp only [mrcP, c_7, c_8, decide_true, decide_false, Bool.not_true, Bool.not_false, Bool.true_and, Bool.and_true, Bool.false_and, Bool.and_false, Bool.or_true, Bool.true_or, Bool.or_false, Bool.false_or, Bool.false_eq_true, Bool.true_eq_false, if_true, if_false, ↓reduceIte]
                            try rw [e9] at hw
                            exact ih_173 (q + 1) (by omega) (by omega) _ _ _ hw (lv_sub hl [1, 2, 3, 4, 0] rfl)
                          · skip
                            refine lv_goto (tgt := 223) hx hb dX6_recover_192 (by decide) ?_
                            refine lv_iinc (v := nI (q + 1)) (lv' := [(6, .int (nI (q + 1))), (0, .ref (ad 0)), (1, .int (nI ee)), (2, .int (nI i)), (3, .int (nI j))]) hx hb dX6_recover_223 hl (k := 4) rfl (nI_inc _) (by decide) rfl (fun ls hl => ?_)
                            refine lv_goto (tgt := 173) hx hb dX6_recover_226 (by decide) ?_
                            have e9 : mrcP i j S_6 q = mrcP i j S_6 (q + 1) := by first | rfl | (simp only [mrcP, c_7, c_8, decide_true, decide_false, Bool.not_true, Bool.not_false, Bool.true_and, Bool.and_true, Bool.false_and, Bool.and_false, Bool.or_true, Bool.true_or, Bool.or_false, Bool.false_or, Bool.false_eq_true, Bool.true_eq_false, if_true, if_false, ↓reduceIte]; done)
                            try rw [e9] at hw
                            exact ih_173 (q + 1) (by omega) (by omega) _ _ _ hw (lv_sub hl [1, 2, 3, 4, 0] rfl)
                    have e9 : S_6 = mrcP i j S_6 0 := by first | rfl | (simp only [mrcP, c_5, decide_true, decide_false, Bool.not_true, Bool.not_false, Bool.true_and, Bool.and_true, Bool.false_and, Bool.and_false, Bool.or_true, Bool.true_or, Bool.or_false, Bool.false_or, Bool.false_eq_true, Bool.true_eq_false, if_true, if_false, ↓reduceIte]; done)
                    try rw [e9] at hw
                    exact lp_173 7 0 (by omega) (by omega) _ _ _ hw (lv_sub hl [1, 2, 3, 4, 0] rfl)
                  · skip
                    have c_5 : ¬ (nr < (r + 1)) := fun h9 => c_5 ((nI_ltI (a := nr) (b := r + 1) (by omega) (by omega)).mpr h9)
                    refine lv_aload_n hx hb dX6_recover_61 rfl (lv_at hl 0 rfl) ?_
                    refine wo_get hx hb hts inX6 hown hK hw 0 rfl rfl 14 (by decide) (hts _ wd_579) (fun _ h9 => h9) rfl dX6_recover_62 ?_
                    refine lv_iload hx hb dX6_recover_65 (lv_at hl 5 rfl) ?_
                    refine wo_iald hx hb hK hw 12 0 rfl rfl (r + 1) rfl (by first | assumption | omega) (by decide) dX6_recover_67 ?_
                    refine lv_iload_n hx hb dX6_recover_68 rfl (lv_at hl 2 rfl) ?_
                    refine lv_icmp_ne (tgt := 157) hx hb dX6_recover_69 (by decide) (fun c_11 => ?_) (fun c_11 => ?_)
                    · skip
                      refine lv_iinc (v := nI ((r + 1) + 1)) (lv' := [(6, .int (nI ((r + 1) + 1))), (0, .ref (ad 0)), (1, .int (nI ee)), (2, .int (nI i)), (3, .int (nI j)), (4, .long ((mcbk (sL (mrecS ee nr i (mrecB ee nr (sI S 6 ee (nI 2)) i) j) 4 (12 * i + 6 * j + ee) 0) ((mrecS ee nr i (mrecB ee nr (sI S 6 ee (nI 2)) i) j).2 4 (12 * i + 6 * j + ee)) ee i j r).2))]) hx hb dX6_recover_157 hl (k := 5) rfl (nI_inc _) (by decide) rfl (fun ls hl => ?_)
                      refine lv_goto (tgt := 52) hx hb dX6_recover_160 (by decide) ?_
                      have e9 : (mcbk (sL (mrecS ee nr i (mrecB ee nr (sI S 6 ee (nI 2)) i) j) 4 (12 * i + 6 * j + ee) 0) ((mrecS ee nr i (mrecB ee nr (sI S 6 ee (nI 2)) i) j).2 4 (12 * i + 6 * j + ee)) ee i j r).2 = (mcbk (sL (mrecS ee nr i (mrecB ee nr (sI S 6 ee (nI 2)) i) j) 4 (12 * i + 6 * j + ee) 0) ((mrecS ee nr i (mrecB ee nr (sI S 6 ee (nI 2)) i) j).2 4 (12 * i + 6 * j + ee)) ee i j (r + 1)).2 := by first | rfl | (simp only [mcbk, mcc, c_5, c_11, decide_true, decide_false, Bool.not_true, Bool.not_false, Bool.true_and, Bool.and_true, Bool.false_and, Bool.and_false, Bool.or_true, Bool.true_or, Bool.or_false, Bool.false_or, Bool.false_eq_true, Bool.true_eq_false, if_true, if_false, ↓reduceIte]; done)
                      try rw [e9] at hl
                      have e9 : (mcbk (sL (mrecS ee nr i (mrecB ee nr (sI S 6 ee (nI 2)) i) j) 4 (12 * i + 6 * j + ee) 0) ((mrecS ee nr i (mrecB ee nr (sI S 6 ee (nI 2)) i) j).2 4 (12 * i + 6 * j + ee)) ee i j r).1 = (mcbk (sL (mrecS ee nr i (mrecB ee nr (sI S 6 ee (nI 2)) i) j) 4 (12 * i + 6 * j + ee) 0) ((mrecS ee nr i (mrecB ee nr (sI S 6 ee (nI 2)) i) j).2 4 (12 * i + 6 * j + ee)) ee i j (r + 1)).1 := by first | rfl | (simp only [mcbk, mcc, c_5, c_11, decide_true, decide_false, Bool.not_true, Bool.not_false, Bool.true_and, Bool.and_true, Bool.false_and, Bool.and_false, Bool.or_true, Bool.true_or, Bool.or_false, Bool.false_or, Bool.false_eq_true, Bool.true_eq_false, if_true, if_false, ↓reduceIte]; done)
                      try rw [e9] at hw
                      exact ih_52 (r + 1) (by omega) (by omega) _ _ _ hw (lv_sub hl [1, 2, 3, 4, 5, 0] rfl)
                    · skip
                      refine lv_aload_n hx hb dX6_recover_72 rfl (lv_at hl 0 rfl) ?_
                      refine wo_get hx hb hts inX6 hown hK hw 0 rfl rfl 15 (by decide) (hts _ wd_580) (fun _ h9 => h9) rfl dX6_recover_73 ?_
                      refine lv_iload hx hb dX6_recover_76 (lv_at hl 5 rfl) ?_
                      refine wo_iald hx hb hK hw 13 0 rfl rfl (r + 1) rfl (by first | assumption | omega) (by decide) dX6_recover_78 ?_
                      refine lv_iload_n hx hb dX6_recover_79 rfl (lv_at hl 3 rfl) ?_
                      refine lv_icmp_ne (tgt := 157) hx hb dX6_recover_80 (by decide) (fun c_12 => ?_) (fun c_12 => ?_)
                      · skip
                        refine lv_iinc (v := nI ((r + 1) + 1)) (lv' := [(6, .int (nI ((r + 1) + 1))), (0, .ref (ad 0)), (1, .int (nI ee)), (2, .int (nI i)), (3, .int (nI j)), (4, .long ((mcbk (sL (mrecS ee nr i (mrecB ee nr (sI S 6 ee (nI 2)) i) j) 4 (12 * i + 6 * j + ee) 0) ((mrecS ee nr i (mrecB ee nr (sI S 6 ee (nI 2)) i) j).2 4 (12 * i + 6 * j + ee)) ee i j r).2))]) hx hb dX6_recover_157 hl (k := 5) rfl (nI_inc _) (by decide) rfl (fun ls hl => ?_)
                        refine lv_goto (tgt := 52) hx hb dX6_recover_160 (by decide) ?_
                        have e9 : (mcbk (sL (mrecS ee nr i (mrecB ee nr (sI S 6 ee (nI 2)) i) j) 4 (12 * i + 6 * j + ee) 0) ((mrecS ee nr i (mrecB ee nr (sI S 6 ee (nI 2)) i) j).2 4 (12 * i + 6 * j + ee)) ee i j r).2 = (mcbk (sL (mrecS ee nr i (mrecB ee nr (sI S 6 ee (nI 2)) i) j) 4 (12 * i + 6 * j + ee) 0) ((mrecS ee nr i (mrecB ee nr (sI S 6 ee (nI 2)) i) j).2 4 (12 * i + 6 * j + ee)) ee i j (r + 1)).2 := by first | rfl | (simp only [mcbk, mcc, c_5, c_11, c_12, decide_true, decide_false, Bool.not_true, Bool.not_false, Bool.true_and, Bool.and_true, Bool.false_and, Bool.and_false, Bool.or_true, Bool.true_or, Bool.or_false, Bool.false_or, Bool.false_eq_true, Bool.true_eq_false, if_true, if_false, ↓reduceIte]; done)
                        try rw [e9] at hl
                        have e9 : (mcbk (sL (mrecS ee nr i (mrecB ee nr (sI S 6 ee (nI 2)) i) j) 4 (12 * i + 6 * j + ee) 0) ((mrecS ee nr i (mrecB ee nr (sI S 6 ee (nI 2)) i) j).2 4 (12 * i + 6 * j + ee)) ee i j r).1 = (mcbk (sL (mrecS ee nr i (mrecB ee nr (sI S 6 ee (nI 2)) i) j) 4 (12 * i + 6 * j + ee) 0) ((mrecS ee nr i (mrecB ee nr (sI S 6 ee (nI 2)) i) j).2 4 (12 * i + 6 * j + ee)) ee i j (r + 1)).1 := by first | rfl | (simp only [mcbk, mcc, c_5, c_11, c_12, decide_true, decide_false, Bool.not_true, Bool.not_false, Bool.true_and, Bool.and_true, Bool.false_and, Bool.and_false, Bool.or_true, Bool.true_or, Bool.or_false, Bool.false_or, Bool.false_eq_true, Bool.true_eq_false, if_true, if_false, ↓reduceIte]; done)
                        try rw [e9] at hw
                        exact ih_52 (r + 1) (by omega) (by omega) _ _ _ hw (lv_sub hl [1, 2, 3, 4, 5, 0] rfl)
                      · skip
                        refine lv_aload_n hx hb dX6_recover_83 rfl (lv_at hl 0 rfl) ?_
                        refine wo_get hx hb hts inX6 hown hK hw 0 rfl rfl 19 (by decide) (hts _ wd_584) (fun _ h9 => h9) rfl dX6_recover_84 ?_
                        refine lv_iload hx hb dX6_recover_87 (lv_at hl 5 rfl) ?_
                        refine wo_iald hx hb hK hw 17 0 rfl rfl (r + 1) rfl (by first | assumption | omega) (by decide) dX6_recover_89 ?_
                        refine lv_iconst (v := nI 1) hx hb dX6_recover_90 (by decide) ?_
                        refine lv_icmp_eq (tgt := 157) hx hb dX6_recover_91 (by decide) (fun c_13 => ?_) (fun c_13 => ?_)
                        · skip
                          refine lv_iinc (v := nI ((r + 1) + 1)) (lv' := [(6, .int (nI ((r + 1) + 1))), (0, .ref (ad 0)), (1, .int (nI ee)), (2, .int (nI i)), (3, .int (nI j)), (4, .long ((mcbk (sL (mrecS ee nr i (mrecB ee nr (sI S 6 ee (nI 2)) i) j) 4 (12 * i + 6 * j + ee) 0) ((mrecS ee nr i (mrecB ee nr (sI S 6 ee (nI 2)) i) j).2 4 (12 * i + 6 * j + ee)) ee i j r).2))]) hx hb dX6_recover_157 hl (k := 5) rfl (nI_inc _) (by decide) rfl (fun ls hl => ?_)
                          refine lv_goto (tgt := 52) hx hb dX6_recover_160 (by decide) ?_
                          have e9 : (mcbk (sL (mrecS ee nr i (mrecB ee nr (sI S 6 ee (nI 2)) i) j) 4 (12 * i + 6 * j + ee) 0) ((mrecS ee nr i (mrecB ee nr (sI S 6 ee (nI 2)) i) j).2 4 (12 * i + 6 * j + ee)) ee i j r).2 = (mcbk (sL (mrecS ee nr i (mrecB ee nr (sI S 6 ee (nI 2)) i) j) 4 (12 * i + 6 * j + ee) 0) ((mrecS ee nr i (mrecB ee nr (sI S 6 ee (nI 2)) i) j).2 4 (12 * i + 6 * j + ee)) ee i j (r + 1)).2 := by first | rfl | (simp only [mcbk, mcc, c_5, c_11, c_12, c_13, decide_true, decide_false, Bool.not_true, Bool.not_false, Bool.true_and, Bool.and_true, Bool.false_and, Bool.and_false, Bool.or_true, Bool.true_or, Bool.or_false, Bool.false_or, Bool.false_eq_true, Bool.true_eq_false, if_true, if_false, ↓reduceIte]; done)
                          try rw [e9] at hl
                          have e9 : (mcbk (sL (mrecS ee nr i (mrecB ee nr (sI S 6 ee (nI 2)) i) j) 4 (12 * i + 6 * j + ee) 0) ((mrecS ee nr i (mrecB ee nr (sI S 6 ee (nI 2)) i) j).2 4 (12 * i + 6 * j + ee)) ee i j r).1 = (mcbk (sL (mrecS ee nr i (mrecB ee nr (sI S 6 ee (nI 2)) i) j) 4 (12 * i + 6 * j + ee) 0) ((mrecS ee nr i (mrecB ee nr (sI S 6 ee (nI 2)) i) j).2 4 (12 * i + 6 * j + ee)) ee i j (r + 1)).1 := by first | rfl | (simp only [mcbk, mcc, c_5, c_11, c_12, c_13, decide_true, decide_false, Bool.not_true, Bool.not_false, Bool.true_and, Bool.and_true, Bool.false_and, Bool.and_false, Bool.or_true, Bool.true_or, Bool.or_false, Bool.false_or, Bool.false_eq_true, Bool.true_eq_false, if_true, if_false, ↓reduceIte]; done)
                          try rw [e9] at hw
                          exact ih_52 (r + 1) (by omega) (by omega) _ _ _ hw (lv_sub hl [1, 2, 3, 4, 5, 0] rfl)
                        · skip
                          refine lv_aload_n hx hb dX6_recover_94 rfl (lv_at hl 0 rfl) ?_
                          refine wo_get hx hb hts inX6 hown hK hw 0 rfl rfl 21 (by decide) (hts _ wd_586) (fun _ h9 => h9) rfl dX6_recover_95 ?_
                          refine lv_iload hx hb dX6_recover_98 (lv_at hl 5 rfl) ?_
                          refine wo_zald hx hb hK hw 19 2 rfl rfl (r + 1) rfl (by first | assumption | omega) (by decide) dX6_recover_100 ?_
                          refine lv_if_ne (tgt := 157) hx hb dX6_recover_101 (by decide) (fun c_14 => ?_) (fun c_14 => ?_)
                          · skip
                            refine lv_iinc (v := nI ((r + 1) + 1)) (lv' := [(6, .int (nI ((r + 1) + 1))), (0, .ref (ad 0)), (1, .int (nI ee)), (2, .int (nI i)), (3, .int (nI j)), (4, .long ((mcbk (sL (mrecS ee nr i (mrecB ee nr (sI S 6 ee (nI 2)) i) j) 4 (12 * i + 6 * j + ee) 0) ((mrecS ee nr i (mrecB ee nr (sI S 6 ee (nI 2)) i) j).2 4 (12 * i + 6 * j + ee)) ee i j r).2))]) hx hb dX6_recover_157 hl (k := 5) rfl (nI_inc _) (by decide) rfl (fun ls hl => ?_)
                            refine lv_goto (tgt := 52) hx hb dX6_recover_160 (by decide) ?_
                            have e9 : (mcbk (sL (mrecS ee nr i (mrecB ee nr (sI S 6 ee (nI 2)) i) j) 4 (12 * i + 6 * j + ee) 0) ((mrecS ee nr i (mrecB ee nr (sI S 6 ee (nI 2)) i) j).2 4 (12 * i + 6 * j + ee)) ee i j r).2 = (mcbk (sL (mrecS ee nr i (mrecB ee nr (sI S 6 ee (nI 2)) i) j) 4 (12 * i + 6 * j + ee) 0) ((mrecS ee nr i (mrecB ee nr (sI S 6 ee (nI 2)) i) j).2 4 (12 * i + 6 * j + ee)) ee i j (r + 1)).2 := by first | rfl | (simp only [mcbk, mcc, c_5, c_11, c_12, c_13, c_14, decide_true, decide_false, Bool.not_true, Bool.not_false, Bool.true_and, Bool.and_true, Bool.false_and, Bool.and_false, Bool.or_true, Bool.true_or, Bool.or_false, Bool.false_or, Bool.false_eq_true, Bool.true_eq_false, if_true, if_false, ↓reduceIte]; done)
                            try rw [e9] at hl
                            have e9 : (mcbk (sL (mrecS ee nr i (mrecB ee nr (sI S 6 ee (nI 2)) i) j) 4 (12 * i + 6 * j + ee) 0) ((mrecS ee nr i (mrecB ee nr (sI S 6 ee (nI 2)) i) j).2 4 (12 * i + 6 * j + ee)) ee i j r).1 = (mcbk (sL (mrecS ee nr i (mrecB ee nr (sI S 6 ee (nI 2)) i) j) 4 (12 * i + 6 * j + ee) 0) ((mrecS ee nr i (mrecB ee nr (sI S 6 ee (nI 2)) i) j).2 4 (12 * i + 6 * j + ee)) ee i j (r + 1)).1 := by first | rfl | (simp only [mcbk, mcc, c_5, c_11, c_12, c_13, c_14, decide_true, decide_false, Bool.not_true, Bool.not_false, Bool.true_and, Bool.and_true, Bool.false_and, Bool.and_false, Bool.or_true, Bool.true_or, Bool.or_false, Bool.false_or, Bool.false_eq_true, Bool.true_eq_false, if_true, if_false, ↓reduceIte]; done)
                            try rw [e9] at hw
                            exact ih_52 (r + 1) (by omega) (by omega) _ _ _ hw (lv_sub hl [1, 2, 3, 4, 5, 0] rfl)
                          · skip
                            refine lv_aload_n hx hb dX6_recover_104 rfl (lv_at hl 0 rfl) ?_
                            refine wo_get hx hb hts inX6 hown hK hw 0 rfl rfl 16 (by decide) (hts _ wd_581) (fun _ h9 => h9) rfl dX6_recover_105 ?_
                            refine lv_iload hx hb dX6_recover_108 (lv_at hl 5 rfl) ?_
                            refine wo_iald hx hb hK hw 14 0 rfl rfl (r + 1) rfl (by first | assumption | omega) (by decide) dX6_recover_110 ?_
                            refine lv_iload_n hx hb dX6_recover_111 rfl (lv_at hl 1 rfl) ?_
                            refine lv_icmp_eq (tgt := 129) hx hb dX6_recover_112 (by decide) (fun c_15 => ?_) (fun c_15 => ?_)
                            · skip
                              refine lv_lload hx hb dX6_recover_129 (lv_at hl 4 rfl) ?_
                              refine lv_aload_n hx hb dX6_recover_131 rfl (lv_at hl 0 rfl) ?_
                              refine wo_get hx hb hts inX6 hown hK hw 0 rfl rfl 18 (by decide) (hts _ wd_583) (fun _ h9 => h9) rfl dX6_recover_132 ?_
                              refine lv_iload hx hb dX6_recover_135 (lv_at hl 5 rfl) ?_
                              refine wo_lald hx hb hK hw 16 1 rfl rfl (r + 1) rfl (by first | assumption | omega) (by decide) dX6_recover_137 ?_
                              refine lv_ladd hx hb dX6_recover_138 ?_
                              refine lv_lstore (lv' := [(4, .long (((mcbk (sL (mrecS ee nr i (mrecB ee nr (sI S 6 ee (nI 2)) i) j) 4 (12 * i + 6 * j + ee) 0) ((mrecS ee nr i (mrecB ee nr (sI S 6 ee (nI 2)) i) j).2 4 (12 * i + 6 * j + ee)) ee i j r).2) + (((mcbk (sL (mrecS ee nr i (mrecB ee nr (sI S 6 ee (nI 2)) i) j) 4 (12 * i + 6 * j + ee) 0) ((mrecS ee nr i (mrecB ee nr (sI S 6 ee (nI 2)) i) j).2 4 (12 * i + 6 * j + ee)) ee i j r).1).2 16 (r + 1)))), (0, .ref (ad 0)), (1, .int (nI ee)), (2, .int (nI i)), (3, .int (nI j)), (6, .int (nI (r + 1)))]) hx hb dX6_recover_139 hl (by decide) rfl (fun ls hl => ?_)
                              refine lv_aload_n hx hb dX6_recover_141 rfl (lv_at hl 1 rfl) ?_
                              refine wo_get hx hb hts inX6 hown hK hw 0 rfl rfl 19 (by decide) (hts _ wd_584) (fun _ h9 => h9) rfl dX6_recover_142 ?_
                              refine lv_iload hx hb dX6_recover_145 (lv_at hl 5 rfl) ?_
                              refine lv_iconst (v := nI 2) hx hb dX6_recover_147 (by decide) ?_
                              refine wo_iast hx hb hK hw 17 0 rfl rfl (r + 1) rfl (by first | assumption | omega) (by decide) (sm_17 ca ad ((mcbk (sL (mrecS ee nr i (mrecB ee nr (sI S 6 ee (nI 2)) i) j) 4 (12 * i + 6 * j + ee) 0) ((mrecS ee nr i (mrecB ee nr (sI S 6 ee (nI 2)) i) j).2 4 (12 * i + 6 * j + ee)) ee i j r).1) (r + 1) (nI 2)) dX6_recover_148 (fun H locs hw => ?_)
                              refine lv_aload_n hx hb dX6_recover_149 rfl (lv_at hl 1 rfl) ?_
                              refine wo_get hx hb hts inX6 hown hK hw 0 rfl rfl 21 (by decide) (hts _ wd_586) (fun _ h9 => h9) rfl dX6_recover_150 ?_
                              refine lv_iload hx hb dX6_recover_153 (lv_at hl 5 rfl) ?_
                              refine lv_iconst (v := nI 1) hx hb dX6_recover_155 (by decide) ?_
                              refine wo_zast hx hb hK hw 19 2 rfl rfl (r + 1) rfl (by first | assumption | omega) (by decide) (by first | decide | assumption | exact nb_v _) (sm_19 ca ad (sI ((mcbk (sL (mrecS ee nr i (mrecB ee nr (sI S 6 ee (nI 2)) i) j) 4 (12 * i + 6 * j + ee) 0) ((mrecS ee nr i (mrecB ee nr (sI S 6 ee (nI 2)) i) j).2 4 (12 * i + 6 * j + ee)) ee i j r).1) 17 (r + 1) (nI 2)) (r + 1) (nI 1)) dX6_recover_156 (fun H locs hw => ?_)
                              refine lv_iinc (v := nI ((r + 1) + 1)) (lv' := [(6, .int (nI ((r + 1) + 1))), (4, .long (((mcbk (sL (mrecS ee nr i (mrecB ee nr (sI S 6 ee (nI 2)) i) j) 4 (12 * i + 6 * j + ee) 0) ((mrecS ee nr i (mrecB ee nr (sI S 6 ee (nI 2)) i) j).2 4 (12 * i + 6 * j + ee)) ee i j r).2) + (((mcbk (sL (mrecS ee nr i (mrecB ee nr (sI S 6 ee (nI 2)) i) j) 4 (12 * i + 6 * j + ee) 0) ((mrecS ee nr i (mrecB ee nr (sI S 6 ee (nI 2)) i) j).2 4 (12 * i + 6 * j + ee)) ee i j r).1).2 16 (r + 1)))), (0, .ref (ad 0)), (1, .int (nI ee)), (2, .int (nI i)), (3, .int (nI j))]) hx hb dX6_recover_157 hl (k := 5) rfl (nI_inc _) (by decide) rfl (fun ls hl => ?_)
                              refine lv_goto (tgt := 52) hx hb dX6_recover_160 (by decide) ?_
                              have e9 : ((mcbk (sL (mrecS ee nr i (mrecB ee nr (sI S 6 ee (nI 2)) i) j) 4 (12 * i + 6 * j + ee) 0) ((mrecS ee nr i (mrecB ee nr (sI S 6 ee (nI 2)) i) j).2 4 (12 * i + 6 * j + ee)) ee i j r).2) + (((mcbk (sL (mrecS ee nr i (mrecB ee nr (sI S 6 ee (nI 2)) i) j) 4 (12 * i + 6 * j + ee) 0) ((mrecS ee nr i (mrecB ee nr (sI S 6 ee (nI 2)) i) j).2 4 (12 * i + 6 * j + ee)) ee i j r).1).2 16 (r + 1)) = (mcbk (sL (mrecS ee nr i (mrecB ee nr (sI S 6 ee (nI 2)) i) j) 4 (12 * i + 6 * j + ee) 0) ((mrecS ee nr i (mrecB ee nr (sI S 6 ee (nI 2)) i) j).2 4 (12 * i + 6 * j + ee)) ee i j (r + 1)).2 := by first | rfl | (simp only [mcbk, mcc, c_5, c_11, c_12, c_13, c_14, c_15, decide_true, decide_false, Bool.not_true, Bool.not_false, Bool.true_and, Bool.and_true, Bool.false_and, Bool.and_false, Bool.or_true, Bool.true_or, Bool.or_false, Bool.false_or, Bool.false_eq_true, Bool.true_eq_false, if_true, if_false, ↓reduceIte]; done)
                              try rw [e9] at hl
                              have e9 : sI (sI ((mcbk (sL (mrecS ee nr i (mrecB ee nr (sI S 6 ee (nI 2)) i) j) 4 (12 * i + 6 * j + ee) 0) ((mrecS ee nr i (mrecB ee nr (sI S 6 ee (nI 2)) i) j).2 4 (12 * i + 6 * j + ee)) ee i j r).1) 17 (r + 1) (nI 2)) 19 (r + 1) (nI 1) = (mcbk (sL (mrecS ee nr i (mrecB ee nr (sI S 6 ee (nI 2)) i) j) 4 (12 * i + 6 * j + ee) 0) ((mrecS ee nr i (mrecB ee nr (sI S 6 ee (nI 2)) i) j).2 4 (12 * i + 6 * j + ee)) ee i j (r + 1)).1 := by first | rfl | (simp only [mcbk, mcc, c_5, c_11, c_12, c_13, c_14, c_15, decide_true, decide_false, Bool.not_true, Bool.not_false, Bool.true_and, Bool.and_true, Bool.false_and, Bool.and_false, Bool.or_true, Bool.true_or, Bool.or_false, Bool.false_or, Bool.false_eq_true, Bool.true_eq_false, if_true, if_false, ↓reduceIte]; done)
                              try rw [e9] at hw
                              exact ih_52 (r + 1) (by omega) (by omega) _ _ _ hw (lv_sub hl [2, 3, 4, 5, 1, 0] rfl)
                            · skip
                              refine lv_aload_n hx hb dX6_recover_115 rfl (lv_at hl 0 rfl) ?_
                              refine wo_get hx hb hts inX6 hown hK hw 0 rfl rfl 17 (by decide) (hts _ wd_582) (fun _ h9 => h9) rfl dX6_recover_116 ?_
                              refine lv_iload hx hb dX6_recover_119 (lv_at hl 5 rfl) ?_
                              refine wo_iald hx hb hK hw 15 0 rfl rfl (r + 1) rfl (by first | assumption | omega) (by decide) dX6_recover_121 ?_
                              refine lv_iload_n hx hb dX6_recover_122 rfl (lv_at hl 1 rfl) ?_
                              refine lv_icmp_eq (tgt := 129) hx hb dX6_recover_123 (by decide) (fun c_16 => ?_) (fun c_16 => ?_)
                              · skip
                                refine lv_lload hx hb dX6_recover_129 (lv_at hl 4 rfl) ?_
                                refine lv_aload_n hx hb dX6_recover_131 rfl (lv_at hl 0 rfl) ?_
                                refine wo_get hx hb hts inX6 hown hK hw 0 rfl rfl 18 (by decide) (hts _ wd_583) (fun _ h9 => h9) rfl dX6_recover_132 ?_
                                refine lv_iload hx hb dX6_recover_135 (lv_at hl 5 rfl) ?_
                                refine wo_lald hx hb hK hw 16 1 rfl rfl (r + 1) rfl (by first | assumption | omega) (by decide) dX6_recover_137 ?_
                                refine lv_ladd hx hb dX6_recover_138 ?_
                                refine lv_lstore (lv' := [(4, .long (((mcbk (sL (mrecS ee nr i (mrecB ee nr (sI S 6 ee (nI 2)) i) j) 4 (12 * i + 6 * j + ee) 0) ((mrecS ee nr i (mrecB ee nr (sI S 6 ee (nI 2)) i) j).2 4 (12 * i + 6 * j + ee)) ee i j r).2) + (((mcbk (sL (mrecS ee nr i (mrecB ee nr (sI S 6 ee (nI 2)) i) j) 4 (12 * i + 6 * j + ee) 0) ((mrecS ee nr i (mrecB ee nr (sI S 6 ee (nI 2)) i) j).2 4 (12 * i + 6 * j + ee)) ee i j r).1).2 16 (r + 1)))), (0, .ref (ad 0)), (1, .int (nI ee)), (2, .int (nI i)), (3, .int (nI j)), (6, .int (nI (r + 1)))]) hx hb dX6_recover_139 hl (by decide) rfl (fun ls hl => ?_)
                                refine lv_aload_n hx hb dX6_recover_141 rfl (lv_at hl 1 rfl) ?_
                                refine wo_get hx hb hts inX6 hown hK hw 0 rfl rfl 19 (by decide) (hts _ wd_584) (fun _ h9 => h9) rfl dX6_recover_142 ?_
                                refine lv_iload hx hb dX6_recover_145 (lv_at hl 5 rfl) ?_
                                refine lv_iconst (v := nI 2) hx hb dX6_recover_147 (by decide) ?_
                                refine wo_iast hx hb hK hw 17 0 rfl rfl (r + 1) rfl (by first | assumption | omega) (by decide) (sm_17 ca ad ((mcbk (sL (mrecS ee nr i (mrecB ee nr (sI S 6 ee (nI 2)) i) j) 4 (12 * i + 6 * j + ee) 0) ((mrecS ee nr i (mrecB ee nr (sI S 6 ee (nI 2)) i) j).2 4 (12 * i + 6 * j + ee)) ee i j r).1) (r + 1) (nI 2)) dX6_recover_148 (fun H locs hw => ?_)
                                refine lv_aload_n hx hb dX6_recover_149 rfl (lv_at hl 1 rfl) ?_
                                refine wo_get hx hb hts inX6 hown hK hw 0 rfl rfl 21 (by decide) (hts _ wd_586) (fun _ h9 => h9) rfl dX6_recover_150 ?_
                                refine lv_iload hx hb dX6_recover_153 (lv_at hl 5 rfl) ?_
                                refine lv_iconst (v := nI 1) hx hb dX6_recover_155 (by decide) ?_
                                refine wo_zast hx hb hK hw 19 2 rfl rfl (r + 1) rfl (by first | assumption | omega) (by decide) (by first | decide | assumption | exact nb_v _) (sm_19 ca ad (sI ((mcbk (sL (mrecS ee nr i (mrecB ee nr (sI S 6 ee (nI 2)) i) j) 4 (12 * i + 6 * j + ee) 0) ((mrecS ee nr i (mrecB ee nr (sI S 6 ee (nI 2)) i) j).2 4 (12 * i + 6 * j + ee)) ee i j r).1) 17 (r + 1) (nI 2)) (r + 1) (nI 1)) dX6_recover_156 (fun H locs hw => ?_)
                                refine lv_iinc (v := nI ((r + 1) + 1)) (lv' := [(6, .int (nI ((r + 1) + 1))), (4, .long (((mcbk (sL (mrecS ee nr i (mrecB ee nr (sI S 6 ee (nI 2)) i) j) 4 (12 * i + 6 * j + ee) 0) ((mrecS ee nr i (mrecB ee nr (sI S 6 ee (nI 2)) i) j).2 4 (12 * i + 6 * j + ee)) ee i j r).2) + (((mcbk (sL (mrecS ee nr i (mrecB ee nr (sI S 6 ee (nI 2)) i) j) 4 (12 * i + 6 * j + ee) 0) ((mrecS ee nr i (mrecB ee nr (sI S 6 ee (nI 2)) i) j).2 4 (12 * i + 6 * j + ee)) ee i j r).1).2 16 (r + 1)))), (0, .ref (ad 0)), (1, .int (nI ee)), (2, .int (nI i)), (3, .int (nI j))]) hx hb dX6_recover_157 hl (k := 5) rfl (nI_inc _) (by decide) rfl (fun ls hl => ?_)
                                refine lv_goto (tgt := 52) hx hb dX6_recover_160 (by decide) ?_
                                have e9 : ((mcbk (sL (mrecS ee nr i (mrecB ee nr (sI S 6 ee (nI 2)) i) j) 4 (12 * i + 6 * j + ee) 0) ((mrecS ee nr i (mrecB ee nr (sI S 6 ee (nI 2)) i) j).2 4 (12 * i + 6 * j + ee)) ee i j r).2) + (((mcbk (sL (mrecS ee nr i (mrecB ee nr (sI S 6 ee (nI 2)) i) j) 4 (12 * i + 6 * j + ee) 0) ((mrecS ee nr i (mrecB ee nr (sI S 6 ee (nI 2)) i) j).2 4 (12 * i + 6 * j + ee)) ee i j r).1).2 16 (r + 1)) = (mcbk (sL (mrecS ee nr i (mrecB ee nr (sI S 6 ee (nI 2)) i) j) 4 (12 * i + 6 * j + ee) 0) ((mrecS ee nr i (mrecB ee nr (sI S 6 ee (nI 2)) i) j).2 4 (12 * i + 6 * j + ee)) ee i j (r + 1)).2 := by first | rfl | (simp only [mcbk, mcc, c_5, c_11, c_12, c_13, c_14, c_15, c_16, decide_true, decide_false, Bool.not_true, Bool.not_false, Bool.true_and, Bool.and_true, Bool.false_and, Bool.and_false, Bool.or_true, Bool.true_or, Bool.or_false, Bool.false_or, Bool.false_eq_true, Bool.true_eq_false, if_true, if_false, ↓reduceIte]; done)
                                try rw [e9] at hl
                                have e9 : sI (sI ((mcbk (sL (mrecS ee nr i (mrecB ee nr (sI S 6 ee (nI 2)) i) j) 4 (12 * i + 6 * j + ee) 0) ((mrecS ee nr i (mrecB ee nr (sI S 6 ee (nI 2)) i) j).2 4 (12 * i + 6 * j + ee)) ee i j r).1) 17 (r + 1) (nI 2)) 19 (r + 1) (nI 1) = (mcbk (sL (mrecS ee nr i (mrecB ee nr (sI S 6 ee (nI 2)) i) j) 4 (12 * i + 6 * j + ee) 0) ((mrecS ee nr i (mrecB ee nr (sI S 6 ee (nI 2)) i) j).2 4 (12 * i + 6 * j + ee)) ee i j (r + 1)).1 := by first | rfl | (simp only [mcbk, mcc, c_5, c_11, c_12, c_13, c_14, c_15, c_16, decide_true, decide_false, Bool.not_true, Bool.not_false, Bool.true_and, Bool.and_true, Bool.false_and, Bool.and_false, Bool.or_true, Bool.true_or, Bool.or_false, Bool.false_or, Bool.false_eq_true, Bool.true_eq_false, if_true, if_false, ↓reduceIte]; done)
                                try rw [e9] at hw
                                exact ih_52 (r + 1) (by omega) (by omega) _ _ _ hw (lv_sub hl [2, 3, 4, 5, 1, 0] rfl)
                              · skip
                                refine lv_goto (tgt := 157) hx hb dX6_recover_126 (by decide) ?_
                                refine lv_iinc (v := nI ((r + 1) + 1)) (lv' := [(6, .int (nI ((r + 1) + 1))), (0, .ref (ad 0)), (1, .int (nI ee)), (2, .int (nI i)), (3, .int (nI j)), (4, .long ((mcbk (sL (mrecS ee nr i (mrecB ee nr (sI S 6 ee (nI 2)) i) j) 4 (12 * i + 6 * j + ee) 0) ((mrecS ee nr i (mrecB ee nr (sI S 6 ee (nI 2)) i) j).2 4 (12 * i + 6 * j + ee)) ee i j r).2))]) hx hb dX6_recover_157 hl (k := 5) rfl (nI_inc _) (by decide) rfl (fun ls hl => ?_)
                                refine lv_goto (tgt := 52) hx hb dX6_recover_160 (by decide) ?_
                                have e9 : (mcbk (sL (mrecS ee nr i (mrecB ee nr (sI S 6 ee (nI 2)) i) j) 4 (12 * i + 6 * j + ee) 0) ((mrecS ee nr i (mrecB ee nr (sI S 6 ee (nI 2)) i) j).2 4 (12 * i + 6 * j + ee)) ee i j r).2 = (mcbk (sL (mrecS ee nr i (mrecB ee nr (sI S 6 ee (nI 2)) i) j) 4 (12 * i + 6 * j + ee) 0) ((mrecS ee nr i (mrecB ee nr (sI S 6 ee (nI 2)) i) j).2 4 (12 * i + 6 * j + ee)) ee i j (r + 1)).2 := by first | rfl | (simp only [mcbk, mcc, c_5, c_11, c_12, c_13, c_14, c_15, c_16, decide_true, decide_false, Bool.not_true, Bool.not_false, Bool.true_and, Bool.and_true, Bool.false_and, Bool.and_false, Bool.or_true, Bool.true_or, Bool.or_false, Bool.false_or, Bool.false_eq_true, Bool.true_eq_false, if_true, if_false, ↓reduceIte]; done)
                                try rw [e9] at hl
                                have e9 : (mcbk (sL (mrecS ee nr i (mrecB ee nr (sI S 6 ee (nI 2)) i) j) 4 (12 * i + 6 * j + ee) 0) ((mrecS ee nr i (mrecB ee nr (sI S 6 ee (nI 2)) i) j).2 4 (12 * i + 6 * j + ee)) ee i j r).1 = (mcbk (sL (mrecS ee nr i (mrecB ee nr (sI S 6 ee (nI 2)) i) j) 4 (12 * i + 6 * j + ee) 0) ((mrecS ee nr i (mrecB ee nr (sI S 6 ee (nI 2)) i) j).2 4 (12 * i + 6 * j + ee)) ee i j (r + 1)).1 := by first | rfl | (simp only [mcbk, mcc, c_5, c_11, c_12, c_13, c_14, c_15, c_16, decide_true, decide_false, Bool.not_true, Bool.not_false, Bool.true_and, Bool.and_true, Bool.false_and, Bool.and_false, Bool.or_true, Bool.true_or, Bool.or_false, Bool.false_or, Bool.false_eq_true, Bool.true_eq_false, if_true, if_false, ↓reduceIte]; done)
                                try rw [e9] at hw
                                exact ih_52 (r + 1) (by omega) (by omega) _ _ _ hw (lv_sub hl [1, 2, 3, 4, 5, 0] rfl)
              have e9 : (mrecS ee nr i (mrecB ee nr (sI S 6 ee (nI 2)) i) j).2 4 (12 * i + 6 * j + ee) = (mcbk (sL (mrecS ee nr i (mrecB ee nr (sI S 6 ee (nI 2)) i) j) 4 (12 * i + 6 * j + ee) 0) ((mrecS ee nr i (mrecB ee nr (sI S 6 ee (nI 2)) i) j).2 4 (12 * i + 6 * j + ee)) ee i j 0).2 := by first | rfl | (simp only [mcbk, mcc, c_2, decide_true, decide_false, Bool.not_true, Bool.not_false, Bool.true_and, Bool.and_true, Bool.false_and, Bool.and_false, Bool.or_true, Bool.true_or, Bool.or_false, Bool.false_or, Bool.false_eq_true, Bool.true_eq_false, if_true, if_false, ↓reduceIte]; done)
              try rw [e9] at hl
              have e9 : nI 1 = nI (0 + 1) := by first | rfl | (simp only [mcbk, mcc, c_2, decide_true, decide_false, Bool.not_true, Bool.not_false, Bool.true_and, Bool.and_true, Bool.false_and, Bool.and_false, Bool.or_true, Bool.true_or, Bool.or_false, Bool.false_or, Bool.false_eq_true, Bool.true_eq_false, if_true, if_false, ↓reduceIte]; done)
              try rw [e9] at hl
              have e9 : sL (mrecS ee nr i (mrecB ee nr (sI S 6 ee (nI 2)) i) j) 4 (12 * i + 6 * j + ee) 0 = (mcbk (sL (mrecS ee nr i (mrecB ee nr (sI S 6 ee (nI 2)) i) j) 4 (12 * i + 6 * j + ee) 0) ((mrecS ee nr i (mrecB ee nr (sI S 6 ee (nI 2)) i) j).2 4 (12 * i + 6 * j + ee)) ee i j 0).1 := by first | rfl | (simp only [mcbk, mcc, c_2, decide_true, decide_false, Bool.not_true, Bool.not_false, Bool.true_and, Bool.and_true, Bool.false_and, Bool.and_false, Bool.or_true, Bool.true_or, Bool.or_false, Bool.false_or, Bool.false_eq_true, Bool.true_eq_false, if_true, if_false, ↓reduceIte]; done)
              try rw [e9] at hw
              exact lp_52 (nr + 1) 0 (by omega) (by omega) _ _ _ hw (lv_sub hl [2, 3, 4, 5, 1, 0] rfl)
        have e9 : mrecB ee nr (sI S 6 ee (nI 2)) i = mrecS ee nr i (mrecB ee nr (sI S 6 ee (nI 2)) i) 0 := rfl
        try rw [e9] at hw
        exact lp_19 3 0 (by omega) (by omega) _ _ _ hw (lv_sub hl [1, 2, 3, 0] rfl)
  have e9 : sI S 6 ee (nI 2) = mrecB ee nr (sI S 6 ee (nI 2)) 0 := rfl
  try rw [e9] at hw
  exact lp_9 (nb + 1) 0 (by omega) (by omega) _ _ _ hw (lv_sub hl [1, 2, 0] rfl)
