section
-- ===== PART A: goes FIRST, ahead of the names: the tables' words, and 'selects' of the private methods out of them =====
/-- a private method of a class that the tables say can be made, by its rows of tables_1 -/
def lw_okq (q : MethodName × Nat) : Prop := (q.1.cls ≠ "java/lang/invoke/MethodHandle" ∧ q.1.cls ≠ "java/lang/invoke/VarHandle") ∧ Cond.instantiable q.1.cls q.2 ∈ tables_1 ∧ Cond.privateMethod q.1 ∈ tables_1 ∧ Cond.instanceMethod q.1 ∈ tables_1
theorem lw_p0 : lw_okq (⟨"LentBounds", "canAskFor", "(IIIJ)Z"⟩, 7) := ⟨⟨by decide +kernel, by decide +kernel⟩, List.mem_of_getElem? (i := 19) (by decide +kernel), List.mem_of_getElem? (i := 238) (by decide +kernel), List.mem_of_getElem? (i := 239) (by decide +kernel)⟩
theorem lw_p1 : lw_okq (⟨"LentBounds", "send", "(IIIIJ)I"⟩, 7) := ⟨⟨by decide +kernel, by decide +kernel⟩, List.mem_of_getElem? (i := 19) (by decide +kernel), List.mem_of_getElem? (i := 246) (by decide +kernel), List.mem_of_getElem? (i := 247) (by decide +kernel)⟩
theorem lw_p2 : lw_okq (⟨"LentBounds", "richestOther", "(III)I"⟩, 7) := ⟨⟨by decide +kernel, by decide +kernel⟩, List.mem_of_getElem? (i := 19) (by decide +kernel), List.mem_of_getElem? (i := 259) (by decide +kernel), List.mem_of_getElem? (i := 260) (by decide +kernel)⟩
theorem lw_p3 : lw_okq (⟨"LentBounds", "receive", "(IIIJ)V"⟩, 7) := ⟨⟨by decide +kernel, by decide +kernel⟩, List.mem_of_getElem? (i := 19) (by decide +kernel), List.mem_of_getElem? (i := 278) (by decide +kernel), List.mem_of_getElem? (i := 279) (by decide +kernel)⟩
theorem lw_p4 : lw_okq (⟨"LentBounds", "goFirst", "(I)Z"⟩, 7) := ⟨⟨by decide +kernel, by decide +kernel⟩, List.mem_of_getElem? (i := 19) (by decide +kernel), List.mem_of_getElem? (i := 282) (by decide +kernel), List.mem_of_getElem? (i := 283) (by decide +kernel)⟩
theorem lw_p5 : lw_okq (⟨"LentBounds", "recover", "(I)V"⟩, 7) := ⟨⟨by decide +kernel, by decide +kernel⟩, List.mem_of_getElem? (i := 19) (by decide +kernel), List.mem_of_getElem? (i := 306) (by decide +kernel), List.mem_of_getElem? (i := 307) (by decide +kernel)⟩
theorem lw_p6 : lw_okq (⟨"LentBounds", "useEqualWeights", "()V"⟩, 7) := ⟨⟨by decide +kernel, by decide +kernel⟩, List.mem_of_getElem? (i := 19) (by decide +kernel), List.mem_of_getElem? (i := 310) (by decide +kernel), List.mem_of_getElem? (i := 311) (by decide +kernel)⟩
theorem lw_p7 : lw_okq (⟨"LentBounds$Splitter", "greatestRest", "()I"⟩, 3) := ⟨⟨by decide +kernel, by decide +kernel⟩, List.mem_of_getElem? (i := 149) (by decide +kernel), List.mem_of_getElem? (i := 336) (by decide +kernel), List.mem_of_getElem? (i := 337) (by decide +kernel)⟩
theorem lw_p8 : lw_okq (⟨"java/lang/Throwable", "fillInStackTrace", "(I)Ljava/lang/Throwable;"⟩, 6) := ⟨⟨by decide +kernel, by decide +kernel⟩, List.mem_of_getElem? (i := 423) (by decide +kernel), List.mem_of_getElem? (i := 421) (by decide +kernel), List.mem_of_getElem? (i := 422) (by decide +kernel)⟩
theorem lw_p9 : lw_okq (⟨"LentBounds", "useOwnWeights", "()V"⟩, 7) := ⟨⟨by decide +kernel, by decide +kernel⟩, List.mem_of_getElem? (i := 19) (by decide +kernel), List.mem_of_getElem? (i := 453) (by decide +kernel), List.mem_of_getElem? (i := 454) (by decide +kernel)⟩
theorem lw_p10 : lw_okq (⟨"LentBounds", "sharesOfThose", "(IIZ)J"⟩, 7) := ⟨⟨by decide +kernel, by decide +kernel⟩, List.mem_of_getElem? (i := 19) (by decide +kernel), List.mem_of_getElem? (i := 530) (by decide +kernel), List.mem_of_getElem? (i := 531) (by decide +kernel)⟩
theorem lw_p11 : lw_okq (⟨"LentBounds", "heldByRows", "(IIZ)J"⟩, 7) := ⟨⟨by decide +kernel, by decide +kernel⟩, List.mem_of_getElem? (i := 19) (by decide +kernel), List.mem_of_getElem? (i := 534) (by decide +kernel), List.mem_of_getElem? (i := 535) (by decide +kernel)⟩
theorem lw_p12 : lw_okq (⟨"LentBounds", "isStuck", "(I)Z"⟩, 7) := ⟨⟨by decide +kernel, by decide +kernel⟩, List.mem_of_getElem? (i := 19) (by decide +kernel), List.mem_of_getElem? (i := 539) (by decide +kernel), List.mem_of_getElem? (i := 540) (by decide +kernel)⟩
theorem lw_p13 : lw_okq (⟨"LentBoundsModel", "isWell", "(I)Z"⟩, 27) := ⟨⟨by decide +kernel, by decide +kernel⟩, List.mem_of_getElem? (i := 560) (by decide +kernel), List.mem_of_getElem? (i := 656) (by decide +kernel), List.mem_of_getElem? (i := 657) (by decide +kernel)⟩
theorem lw_p14 : lw_okq (⟨"LentBoundsModel", "raise", "(I)I"⟩, 27) := ⟨⟨by decide +kernel, by decide +kernel⟩, List.mem_of_getElem? (i := 560) (by decide +kernel), List.mem_of_getElem? (i := 673) (by decide +kernel), List.mem_of_getElem? (i := 674) (by decide +kernel)⟩
theorem lw_p15 : lw_okq (⟨"LentBoundsModel", "split", "(JZ)V"⟩, 27) := ⟨⟨by decide +kernel, by decide +kernel⟩, List.mem_of_getElem? (i := 560) (by decide +kernel), List.mem_of_getElem? (i := 677) (by decide +kernel), List.mem_of_getElem? (i := 678) (by decide +kernel)⟩
def lw_privs_1 : List (MethodName × Nat) := [(⟨"LentBounds", "canAskFor", "(IIIJ)Z"⟩, 7), (⟨"LentBounds", "send", "(IIIIJ)I"⟩, 7), (⟨"LentBounds", "richestOther", "(III)I"⟩, 7), (⟨"LentBounds", "receive", "(IIIJ)V"⟩, 7), (⟨"LentBounds", "goFirst", "(I)Z"⟩, 7), (⟨"LentBounds", "recover", "(I)V"⟩, 7), (⟨"LentBounds", "useEqualWeights", "()V"⟩, 7), (⟨"LentBounds$Splitter", "greatestRest", "()I"⟩, 3), (⟨"java/lang/Throwable", "fillInStackTrace", "(I)Ljava/lang/Throwable;"⟩, 6), (⟨"LentBounds", "useOwnWeights", "()V"⟩, 7), (⟨"LentBounds", "sharesOfThose", "(IIZ)J"⟩, 7), (⟨"LentBounds", "heldByRows", "(IIZ)J"⟩, 7), (⟨"LentBounds", "isStuck", "(I)Z"⟩, 7), (⟨"LentBoundsModel", "isWell", "(I)Z"⟩, 27), (⟨"LentBoundsModel", "raise", "(I)I"⟩, 27), (⟨"LentBoundsModel", "split", "(JZ)V"⟩, 27)]
theorem lw_r1 : ∀ q ∈ lw_privs_1, lw_okq q := List.forall_mem_cons.mpr ⟨lw_p0, List.forall_mem_cons.mpr ⟨lw_p1, List.forall_mem_cons.mpr ⟨lw_p2, List.forall_mem_cons.mpr ⟨lw_p3, List.forall_mem_cons.mpr ⟨lw_p4, List.forall_mem_cons.mpr ⟨lw_p5, List.forall_mem_cons.mpr ⟨lw_p6, List.forall_mem_cons.mpr ⟨lw_p7, List.forall_mem_cons.mpr ⟨lw_p8, List.forall_mem_cons.mpr ⟨lw_p9, List.forall_mem_cons.mpr ⟨lw_p10, List.forall_mem_cons.mpr ⟨lw_p11, List.forall_mem_cons.mpr ⟨lw_p12, List.forall_mem_cons.mpr ⟨lw_p13, List.forall_mem_cons.mpr ⟨lw_p14, List.forall_mem_cons.mpr ⟨lw_p15, fun _ h => absurd h List.not_mem_nil⟩⟩⟩⟩⟩⟩⟩⟩⟩⟩⟩⟩⟩⟩⟩⟩
theorem lw_p16 : lw_okq (⟨"LentBoundsModel", "isBound", "(I)Z"⟩, 27) := ⟨⟨by decide +kernel, by decide +kernel⟩, List.mem_of_getElem? (i := 560) (by decide +kernel), List.mem_of_getElem? (i := 692) (by decide +kernel), List.mem_of_getElem? (i := 693) (by decide +kernel)⟩
theorem lw_p17 : lw_okq (⟨"LentBoundsModel", "move", "(IIJ)Z"⟩, 27) := ⟨⟨by decide +kernel, by decide +kernel⟩, List.mem_of_getElem? (i := 560) (by decide +kernel), List.mem_of_getElem? (i := 697) (by decide +kernel), List.mem_of_getElem? (i := 698) (by decide +kernel)⟩
theorem lw_p18 : lw_okq (⟨"LentBoundsModel", "add", "(IIIIJ)I"⟩, 27) := ⟨⟨by decide +kernel, by decide +kernel⟩, List.mem_of_getElem? (i := 560) (by decide +kernel), List.mem_of_getElem? (i := 705) (by decide +kernel), List.mem_of_getElem? (i := 706) (by decide +kernel)⟩
theorem lw_p19 : lw_okq (⟨"LentBoundsModel", "isRow", "(I)Z"⟩, 27) := ⟨⟨by decide +kernel, by decide +kernel⟩, List.mem_of_getElem? (i := 560) (by decide +kernel), List.mem_of_getElem? (i := 717) (by decide +kernel), List.mem_of_getElem? (i := 718) (by decide +kernel)⟩
theorem lw_p20 : lw_okq (⟨"LentBoundsModel", "came", "(I)V"⟩, 27) := ⟨⟨by decide +kernel, by decide +kernel⟩, List.mem_of_getElem? (i := 560) (by decide +kernel), List.mem_of_getElem? (i := 721) (by decide +kernel), List.mem_of_getElem? (i := 722) (by decide +kernel)⟩
theorem lw_p21 : lw_okq (⟨"LentBoundsModel", "isTold", "(I)Z"⟩, 27) := ⟨⟨by decide +kernel, by decide +kernel⟩, List.mem_of_getElem? (i := 560) (by decide +kernel), List.mem_of_getElem? (i := 733) (by decide +kernel), List.mem_of_getElem? (i := 734) (by decide +kernel)⟩
theorem lw_p22 : lw_okq (⟨"LentBoundsModel", "recover", "(I)V"⟩, 27) := ⟨⟨by decide +kernel, by decide +kernel⟩, List.mem_of_getElem? (i := 560) (by decide +kernel), List.mem_of_getElem? (i := 737) (by decide +kernel), List.mem_of_getElem? (i := 738) (by decide +kernel)⟩
theorem lw_p23 : lw_okq (⟨"LentBoundsModel", "shares", "(IIZ)J"⟩, 27) := ⟨⟨by decide +kernel, by decide +kernel⟩, List.mem_of_getElem? (i := 560) (by decide +kernel), List.mem_of_getElem? (i := 754) (by decide +kernel), List.mem_of_getElem? (i := 755) (by decide +kernel)⟩
theorem lw_p24 : lw_okq (⟨"LentBoundsModel", "inRows", "(IIZ)J"⟩, 27) := ⟨⟨by decide +kernel, by decide +kernel⟩, List.mem_of_getElem? (i := 560) (by decide +kernel), List.mem_of_getElem? (i := 758) (by decide +kernel), List.mem_of_getElem? (i := 759) (by decide +kernel)⟩
def lw_privs_2 : List (MethodName × Nat) := [(⟨"LentBoundsModel", "isBound", "(I)Z"⟩, 27), (⟨"LentBoundsModel", "move", "(IIJ)Z"⟩, 27), (⟨"LentBoundsModel", "add", "(IIIIJ)I"⟩, 27), (⟨"LentBoundsModel", "isRow", "(I)Z"⟩, 27), (⟨"LentBoundsModel", "came", "(I)V"⟩, 27), (⟨"LentBoundsModel", "isTold", "(I)Z"⟩, 27), (⟨"LentBoundsModel", "recover", "(I)V"⟩, 27), (⟨"LentBoundsModel", "shares", "(IIZ)J"⟩, 27), (⟨"LentBoundsModel", "inRows", "(IIZ)J"⟩, 27)]
theorem lw_r2 : ∀ q ∈ lw_privs_2, lw_okq q := List.forall_mem_cons.mpr ⟨lw_p16, List.forall_mem_cons.mpr ⟨lw_p17, List.forall_mem_cons.mpr ⟨lw_p18, List.forall_mem_cons.mpr ⟨lw_p19, List.forall_mem_cons.mpr ⟨lw_p20, List.forall_mem_cons.mpr ⟨lw_p21, List.forall_mem_cons.mpr ⟨lw_p22, List.forall_mem_cons.mpr ⟨lw_p23, List.forall_mem_cons.mpr ⟨lw_p24, fun _ h => absurd h List.not_mem_nil⟩⟩⟩⟩⟩⟩⟩⟩⟩
def lw_privs : List (MethodName × Nat) := lw_privs_1 ++ (lw_privs_2)
def lw_tbl : List Cond := k2_sels lw_privs ++ tables_1
theorem lw_privs_ok : ∀ q ∈ lw_privs, lw_okq q := by
  show ∀ q ∈ lw_privs_1 ++ (lw_privs_2), lw_okq q
  exact List.forall_mem_append.mpr ⟨lw_r1, lw_r2⟩

/-- the words that go along with every contract of mine -/
def wa_T : List Cond := lw_tbl.filter goodWord
theorem wa_in {w : Cond} (i : Nat) (h : tables_1[i]? = some w) (hg : goodWord w = true) : w ∈ wa_T := List.mem_filter.mpr ⟨List.mem_append_right _ (List.mem_of_getElem? h), hg⟩
theorem wa_sel {w : Cond} (i : Nat) (h : (k2_sels lw_privs)[i]? = some w) (hg : goodWord w = true) : w ∈ wa_T := List.mem_filter.mpr ⟨List.mem_append_left _ (List.mem_of_getElem? h), hg⟩
theorem wa_all : GoodIn wa_T wa_T := fun w h => ⟨h, good_of_word (List.mem_filter.mp h).2⟩
theorem wa_code {w : Cond} (h : w ∈ wa_T) : GoodIn wa_T (w :: wa_T) := fun v hv => (List.mem_cons.mp hv).elim (fun e => wa_all v (e ▸ h)) (wa_all v)
theorem wa_gV {own C : String} {idx maxL : Nat} {y : MethodName} {cc : ByteArray} {ret : Option FieldType} (h1 : Cond.methodLink own idx y ∈ wa_T) (h2 : Cond.instanceMethod y ∈ wa_T) (h3 : Cond.selects C y y ∈ wa_T) (h4 : Cond.initialized C ∈ wa_T) (h5 : Cond.code y cc maxL ret ∈ wa_T) : GoodIn wa_T (wsV own idx C y (Cond.code y cc maxL ret :: wa_T)) := by
  intro w hw
  rcases List.mem_append.mp hw with hw | hw
  · simp only [List.mem_cons, List.not_mem_nil, or_false] at hw
    rcases hw with rfl | rfl | rfl | rfl
    · exact wa_all _ h1
    · exact wa_all _ h2
    · exact wa_all _ h3
    · exact wa_all _ h4
  · exact wa_code h5 w hw
theorem wa_gS {own : String} {idx maxL : Nat} {y : MethodName} {cc : ByteArray} {ret : Option FieldType} (h1 : Cond.methodLink own idx y ∈ wa_T) (h2 : Cond.static y ∈ wa_T) (h3 : Cond.initialized y.cls ∈ wa_T) (h5 : Cond.code y cc maxL ret ∈ wa_T) : GoodIn wa_T (va_wsS own idx y (Cond.code y cc maxL ret :: wa_T)) := by
  intro w hw
  rcases List.mem_append.mp hw with hw | hw
  · simp only [List.mem_cons, List.not_mem_nil, or_false] at hw
    rcases hw with rfl | rfl | rfl
    · exact wa_all _ h1
    · exact wa_all _ h2
    · exact wa_all _ h3
  · exact wa_code h5 w hw
end
section
def RX0 : String := "LentBounds$Bounds"
def TX0 : u_T := fun k => match k with
  | 0 => ("LentBounds$Bounds", "count", "I", false)
  | 1 => ("LentBounds$Bounds", "floors", "[J", true)
  | 2 => ("LentBounds$Bounds", "values", "[J", true)
  | 3 => ("LentBounds$Bounds", "ceilings", "[J", true)
  | _ => ("LentBounds$Bounds", "shares", "[[J", true)
def tyX0 : Nat → FieldType := fun k => match k with
  | 0 => .int
  | 1 => .array .long
  | 2 => .array .long
  | 3 => .array .long
  | _ => .array (.array .long)
theorem nmX0 : ∀ a, a < 5 → ∀ b, b < 5 → a ≠ b → (TX0 a).2.1 ≠ (TX0 b).2.1 := by decide +kernel
theorem tyX0_ok : ∀ k, k < 5 → parseFieldDescriptor (TX0 k).2.2.1 = some (tyX0 k) := by decide +kernel
theorem inX0 : ∀ w ∈ u_ws RX0 TX0 5, w ∈ wa_T := by decide +kernel
def RX1 : String := "LentBounds$People"
def TX1 : u_T := fun k => match k with
  | 0 => ("LentBounds$People", "weights", "[J", true)
  | 1 => ("LentBounds$People", "patience", "[Z", true)
  | 2 => ("LentBounds$People", "states", "[I", true)
  | _ => ("LentBounds$People", "tellers", "[I", true)
def tyX1 : Nat → FieldType := fun k => match k with
  | 0 => .array .long
  | 1 => .array .boolean
  | 2 => .array .int
  | _ => .array .int
theorem nmX1 : ∀ a, a < 4 → ∀ b, b < 4 → a ≠ b → (TX1 a).2.1 ≠ (TX1 b).2.1 := by decide +kernel
theorem tyX1_ok : ∀ k, k < 4 → parseFieldDescriptor (TX1 k).2.2.1 = some (tyX1 k) := by decide +kernel
theorem inX1 : ∀ w ∈ u_ws RX1 TX1 4, w ∈ wa_T := by decide +kernel
def RX2 : String := "LentBounds$Queues"
def TX2 : u_T := fun k => match k with
  | 0 => ("LentBounds$Queues", "lengths", "[I", true)
  | 1 => ("LentBounds$Queues", "boundOf", "[[I", true)
  | _ => ("LentBounds$Queues", "amounts", "[[J", true)
def tyX2 : Nat → FieldType := fun k => match k with
  | 0 => .array .int
  | 1 => .array (.array .int)
  | _ => .array (.array .long)
theorem nmX2 : ∀ a, a < 3 → ∀ b, b < 3 → a ≠ b → (TX2 a).2.1 ≠ (TX2 b).2.1 := by decide +kernel
theorem tyX2_ok : ∀ k, k < 3 → parseFieldDescriptor (TX2 k).2.2.1 = some (tyX2 k) := by decide +kernel
theorem inX2 : ∀ w ∈ u_ws RX2 TX2 3, w ∈ wa_T := by decide +kernel
def RX3 : String := "LentBounds$Rows"
def TX3 : u_T := fun k => match k with
  | 0 => ("LentBounds$Rows", "count", "I", false)
  | 1 => ("LentBounds$Rows", "boundOf", "[I", true)
  | 2 => ("LentBounds$Rows", "sideOf", "[I", true)
  | 3 => ("LentBounds$Rows", "lenders", "[I", true)
  | 4 => ("LentBounds$Rows", "borrowers", "[I", true)
  | 5 => ("LentBounds$Rows", "states", "[I", true)
  | 6 => ("LentBounds$Rows", "deliveries", "[I", true)
  | 7 => ("LentBounds$Rows", "amounts", "[J", true)
  | _ => ("LentBounds$Rows", "held", "[J", true)
def tyX3 : Nat → FieldType := fun k => match k with
  | 0 => .int
  | 1 => .array .int
  | 2 => .array .int
  | 3 => .array .int
  | 4 => .array .int
  | 5 => .array .int
  | 6 => .array .int
  | 7 => .array .long
  | _ => .array .long
theorem nmX3 : ∀ a, a < 9 → ∀ b, b < 9 → a ≠ b → (TX3 a).2.1 ≠ (TX3 b).2.1 := by decide +kernel
theorem tyX3_ok : ∀ k, k < 9 → parseFieldDescriptor (TX3 k).2.2.1 = some (tyX3 k) := by decide +kernel
theorem inX3 : ∀ w ∈ u_ws RX3 TX3 9, w ∈ wa_T := by decide +kernel
def RX4 : String := "LentBounds$Splitter"
def TX4 : u_T := fun k => match k with
  | 0 => ("LentBounds$Splitter", "weights", "[J", true)
  | 1 => ("LentBounds$Splitter", "parts", "[J", true)
  | _ => ("LentBounds$Splitter", "rests", "[J", true)
def tyX4 : Nat → FieldType := fun k => match k with
  | 0 => .array .long
  | 1 => .array .long
  | _ => .array .long
theorem nmX4 : ∀ a, a < 3 → ∀ b, b < 3 → a ≠ b → (TX4 a).2.1 ≠ (TX4 b).2.1 := by decide +kernel
theorem tyX4_ok : ∀ k, k < 3 → parseFieldDescriptor (TX4 k).2.2.1 = some (tyX4 k) := by decide +kernel
theorem inX4 : ∀ w ∈ u_ws RX4 TX4 3, w ∈ wa_T := by decide +kernel
def RX5 : String := "LentBounds"
def TX5 : u_T := fun k => match k with
  | 0 => ("LentBounds", "people", "LLentBounds$People;", true)
  | 1 => ("LentBounds", "bounds", "LLentBounds$Bounds;", true)
  | 2 => ("LentBounds", "rows", "LLentBounds$Rows;", true)
  | 3 => ("LentBounds", "queues", "LLentBounds$Queues;", true)
  | 4 => ("LentBounds", "splitter", "LLentBounds$Splitter;", true)
  | 5 => ("LentBounds", "doneCount", "I", false)
  | _ => ("LentBounds", "refusedCount", "I", false)
def tyX5 : Nat → FieldType := fun k => match k with
  | 0 => .object "LentBounds$People"
  | 1 => .object "LentBounds$Bounds"
  | 2 => .object "LentBounds$Rows"
  | 3 => .object "LentBounds$Queues"
  | 4 => .object "LentBounds$Splitter"
  | 5 => .int
  | _ => .int
theorem nmX5 : ∀ a, a < 7 → ∀ b, b < 7 → a ≠ b → (TX5 a).2.1 ≠ (TX5 b).2.1 := by decide +kernel
theorem tyX5_ok : ∀ k, k < 7 → parseFieldDescriptor (TX5 k).2.2.1 = some (tyX5 k) := by decide +kernel
theorem inX5 : ∀ w ∈ u_ws RX5 TX5 7, w ∈ wa_T := by decide +kernel
def RX6 : String := "LentBoundsModel"
def TX6 : u_T := fun k => match k with
  | 0 => ("LentBoundsModel", "thrown", "I", false)
  | 1 => ("LentBoundsModel", "bounds", "I", false)
  | 2 => ("LentBoundsModel", "floor", "[J", true)
  | 3 => ("LentBoundsModel", "value", "[J", true)
  | 4 => ("LentBoundsModel", "ceiling", "[J", true)
  | 5 => ("LentBoundsModel", "share", "[J", true)
  | 6 => ("LentBoundsModel", "weight", "[J", true)
  | 7 => ("LentBoundsModel", "how", "[I", true)
  | 8 => ("LentBoundsModel", "patient", "[Z", true)
  | 9 => ("LentBoundsModel", "told", "[Z", true)
  | 10 => ("LentBoundsModel", "waits", "[I", true)
  | 11 => ("LentBoundsModel", "waitBound", "[I", true)
  | 12 => ("LentBoundsModel", "waitFor", "[J", true)
  | 13 => ("LentBoundsModel", "rows", "I", false)
  | 14 => ("LentBoundsModel", "rowBound", "[I", true)
  | 15 => ("LentBoundsModel", "rowSide", "[I", true)
  | 16 => ("LentBoundsModel", "from", "[I", true)
  | 17 => ("LentBoundsModel", "to", "[I", true)
  | 18 => ("LentBoundsModel", "much", "[J", true)
  | 19 => ("LentBoundsModel", "state", "[I", true)
  | 20 => ("LentBoundsModel", "times", "[I", true)
  | 21 => ("LentBoundsModel", "isBack", "[Z", true)
  | 22 => ("LentBoundsModel", "done", "I", false)
  | 23 => ("LentBoundsModel", "refused", "I", false)
  | 24 => ("LentBoundsModel", "part", "[J", true)
  | 25 => ("LentBoundsModel", "rest", "[J", true)
  | _ => ("LentBoundsModel", "more", "[Z", true)
def tyX6 : Nat → FieldType := fun k => match k with
  | 0 => .int
  | 1 => .int
  | 2 => .array .long
  | 3 => .array .long
  | 4 => .array .long
  | 5 => .array .long
  | 6 => .array .long
  | 7 => .array .int
  | 8 => .array .boolean
  | 9 => .array .boolean
  | 10 => .array .int
  | 11 => .array .int
  | 12 => .array .long
  | 13 => .int
  | 14 => .array .int
  | 15 => .array .int
  | 16 => .array .int
  | 17 => .array .int
  | 18 => .array .long
  | 19 => .array .int
  | 20 => .array .int
  | 21 => .array .boolean
  | 22 => .int
  | 23 => .int
  | 24 => .array .long
  | 25 => .array .long
  | _ => .array .boolean
theorem nmX6 : ∀ a, a < 27 → ∀ b, b < 27 → a ≠ b → (TX6 a).2.1 ≠ (TX6 b).2.1 := by decide +kernel
theorem tyX6_ok : ∀ k, k < 27 → parseFieldDescriptor (TX6 k).2.2.1 = some (tyX6 k) := by decide +kernel
theorem inX6 : ∀ w ∈ u_ws RX6 TX6 27, w ∈ wa_T := by decide +kernel
abbrev cX5_init : ByteArray := prog_1_method_1_code
def yX5_init : MethodName := ⟨"LentBounds", "<init>", "()V"⟩
abbrev cX1_init : ByteArray := prog_3_method_1_code
def yX1_init : MethodName := ⟨"LentBounds$People", "<init>", "()V"⟩
abbrev cJ7_fill : ByteArray := prog_18_method_101_code
def yJ7_fill : MethodName := ⟨"java/util/Arrays", "fill", "([JJ)V"⟩
abbrev cX0_init : ByteArray := prog_2_method_1_code
def yX0_init : MethodName := ⟨"LentBounds$Bounds", "<init>", "()V"⟩
abbrev cX3_init : ByteArray := prog_5_method_1_code
def yX3_init : MethodName := ⟨"LentBounds$Rows", "<init>", "()V"⟩
abbrev cX2_init : ByteArray := prog_4_method_1_code
def yX2_init : MethodName := ⟨"LentBounds$Queues", "<init>", "()V"⟩
abbrev cX4_init : ByteArray := prog_6_method_1_code
def yX4_init : MethodName := ⟨"LentBounds$Splitter", "<init>", "()V"⟩
abbrev cX5_weigh : ByteArray := prog_1_method_2_code
def yX5_weigh : MethodName := ⟨"LentBounds", "weigh", "(IJ)Z"⟩
abbrev cX1_isWell : ByteArray := prog_3_method_3_code
def yX1_isWell : MethodName := ⟨"LentBounds$People", "isWell", "(I)Z"⟩
abbrev cX1_has : ByteArray := prog_3_method_2_code
def yX1_has : MethodName := ⟨"LentBounds$People", "has", "(I)Z"⟩
abbrev cX5_patient : ByteArray := prog_1_method_4_code
def yX5_patient : MethodName := ⟨"LentBounds", "patient", "(IZ)Z"⟩
abbrev cX5_take : ByteArray := prog_1_method_5_code
def yX5_take : MethodName := ⟨"LentBounds", "take", "(IIJ)I"⟩
abbrev cX0_has : ByteArray := prog_2_method_2_code
def yX0_has : MethodName := ⟨"LentBounds$Bounds", "has", "(I)Z"⟩
abbrev cX0_move : ByteArray := prog_2_method_8_code
def yX0_move : MethodName := ⟨"LentBounds$Bounds", "move", "(IIJ)Z"⟩
abbrev cX0_shareOf : ByteArray := prog_2_method_5_code
def yX0_shareOf : MethodName := ⟨"LentBounds$Bounds", "shareOf", "(III)J"⟩
abbrev cX0_addToShare : ByteArray := prog_2_method_6_code
def yX0_addToShare : MethodName := ⟨"LentBounds$Bounds", "addToShare", "(IIIJ)V"⟩
abbrev cX2_append : ByteArray := prog_4_method_2_code
def yX2_append : MethodName := ⟨"LentBounds$Queues", "append", "(IIJ)Z"⟩
abbrev cX5_lend : ByteArray := prog_1_method_6_code
def yX5_lend : MethodName := ⟨"LentBounds", "lend", "(IIIIJ)I"⟩
abbrev cX5_canAskFor : ByteArray := prog_1_method_22_code
def yX5_canAskFor : MethodName := ⟨"LentBounds", "canAskFor", "(IIIJ)Z"⟩
abbrev cX5_isSide : ByteArray := prog_1_method_21_code
def yX5_isSide : MethodName := ⟨"LentBounds", "isSide", "(I)Z"⟩
abbrev cX5_send : ByteArray := prog_1_method_24_code
def yX5_send : MethodName := ⟨"LentBounds", "send", "(IIIIJ)I"⟩
abbrev cX3_open : ByteArray := prog_5_method_4_code
def yX3_open : MethodName := ⟨"LentBounds$Rows", "open", "(IIIIJ)I"⟩
abbrev cX5_ask : ByteArray := prog_1_method_7_code
def yX5_ask : MethodName := ⟨"LentBounds", "ask", "(IIIJ)I"⟩
abbrev cX5_richestOther : ByteArray := prog_1_method_23_code
def yX5_richestOther : MethodName := ⟨"LentBounds", "richestOther", "(III)I"⟩
abbrev cX5_deliver : ByteArray := prog_1_method_8_code
def yX5_deliver : MethodName := ⟨"LentBounds", "deliver", "(I)I"⟩
abbrev cX3_has : ByteArray := prog_5_method_2_code
def yX3_has : MethodName := ⟨"LentBounds$Rows", "has", "(I)Z"⟩
abbrev cX3_empty : ByteArray := prog_5_method_5_code
def yX3_empty : MethodName := ⟨"LentBounds$Rows", "empty", "(I)J"⟩
abbrev cX5_receive : ByteArray := prog_1_method_25_code
def yX5_receive : MethodName := ⟨"LentBounds", "receive", "(IIIJ)V"⟩
abbrev cX5_goFirst : ByteArray := prog_1_method_26_code
def yX5_goFirst : MethodName := ⟨"LentBounds", "goFirst", "(I)Z"⟩
abbrev cX2_removeFirst : ByteArray := prog_4_method_3_code
def yX2_removeFirst : MethodName := ⟨"LentBounds$Queues", "removeFirst", "(I)V"⟩
abbrev cX5_lose : ByteArray := prog_1_method_9_code
def yX5_lose : MethodName := ⟨"LentBounds", "lose", "(I)Z"⟩
abbrev cX5_end : ByteArray := prog_1_method_10_code
def yX5_end : MethodName := ⟨"LentBounds", "end", "(I)Z"⟩
abbrev cX2_clear : ByteArray := prog_4_method_4_code
def yX2_clear : MethodName := ⟨"LentBounds$Queues", "clear", "(I)V"⟩
abbrev cX1_canBeRecovered : ByteArray := prog_3_method_5_code
def yX1_canBeRecovered : MethodName := ⟨"LentBounds$People", "canBeRecovered", "(I)Z"⟩
abbrev cX5_recover : ByteArray := prog_1_method_27_code
def yX5_recover : MethodName := ⟨"LentBounds", "recover", "(I)V"⟩
abbrev cX5_useEqualWeights : ByteArray := prog_1_method_29_code
def yX5_useEqualWeights : MethodName := ⟨"LentBounds", "useEqualWeights", "()V"⟩
abbrev cX0_emptyShare : ByteArray := prog_2_method_7_code
def yX0_emptyShare : MethodName := ⟨"LentBounds$Bounds", "emptyShare", "(III)J"⟩
abbrev cX3_callBack : ByteArray := prog_5_method_6_code
def yX3_callBack : MethodName := ⟨"LentBounds$Rows", "callBack", "(III)J"⟩
abbrev cX3_isOf : ByteArray := prog_5_method_3_code
def yX3_isOf : MethodName := ⟨"LentBounds$Rows", "isOf", "(III)Z"⟩
abbrev cX4_split : ByteArray := prog_6_method_3_code
def yX4_split : MethodName := ⟨"LentBounds$Splitter", "split", "(J)V"⟩
abbrev cX4_allWeights : ByteArray := prog_6_method_2_code
def yX4_allWeights : MethodName := ⟨"LentBounds$Splitter", "allWeights", "()J"⟩
abbrev cX4_greatestRest : ByteArray := prog_6_method_4_code
def yX4_greatestRest : MethodName := ⟨"LentBounds$Splitter", "greatestRest", "()I"⟩
abbrev cX5_vouch : ByteArray := prog_1_method_11_code
def yX5_vouch : MethodName := ⟨"LentBounds", "vouch", "(II)I"⟩
abbrev cX1_tell : ByteArray := prog_3_method_4_code
def yX1_tell : MethodName := ⟨"LentBounds$People", "tell", "(II)Z"⟩
abbrev cX5_row : ByteArray := prog_1_method_14_code
def yX5_row : MethodName := ⟨"LentBounds", "row", "(II)I"⟩
abbrev cX5_person : ByteArray := prog_1_method_17_code
def yX5_person : MethodName := ⟨"LentBounds", "person", "(II)I"⟩
abbrev cJ6_bitCount : ByteArray := prog_13_method_49_code
def yJ6_bitCount : MethodName := ⟨"java/lang/Integer", "bitCount", "(I)I"⟩
abbrev cX5_total : ByteArray := prog_1_method_18_code
def yX5_total : MethodName := ⟨"LentBounds", "total", "(I)I"⟩
abbrev cL_bound : ByteArray := method_3_code
def yL_bound : MethodName := ⟨"LentBoundsLaw", "bound", "(LLentBounds;JJJ[J)I"⟩
abbrev cX5_bound : ByteArray := prog_1_method_3_code
def yX5_bound : MethodName := ⟨"LentBounds", "bound", "(JJJ)I"⟩
abbrev cX5_isInOrder : ByteArray := prog_1_method_19_code
def yX5_isInOrder : MethodName := ⟨"LentBounds", "isInOrder", "(JJJ)Z"⟩
abbrev cX5_isRoom : ByteArray := prog_1_method_20_code
def yX5_isRoom : MethodName := ⟨"LentBounds", "isRoom", "(J)Z"⟩
abbrev cX5_useOwnWeights : ByteArray := prog_1_method_28_code
def yX5_useOwnWeights : MethodName := ⟨"LentBounds", "useOwnWeights", "()V"⟩
abbrev cX0_open : ByteArray := prog_2_method_3_code
def yX0_open : MethodName := ⟨"LentBounds$Bounds", "open", "(JJJ)I"⟩
abbrev cX0_setShares : ByteArray := prog_2_method_4_code
def yX0_setShares : MethodName := ⟨"LentBounds$Bounds", "setShares", "(II[J)V"⟩
abbrev cL_share : ByteArray := method_4_code
def yL_share : MethodName := ⟨"LentBoundsLaw", "share", "(LLentBounds;III[J)I"⟩
abbrev cX5_share : ByteArray := prog_1_method_12_code
def yX5_share : MethodName := ⟨"LentBounds", "share", "(III)J"⟩
abbrev cL_sum : ByteArray := method_5_code
def yL_sum : MethodName := ⟨"LentBoundsLaw", "sum", "(LLentBounds;II[J)I"⟩
abbrev cX5_sum : ByteArray := prog_1_method_13_code
def yX5_sum : MethodName := ⟨"LentBounds", "sum", "(II)J"⟩
abbrev cX5_sharesOfThose : ByteArray := prog_1_method_30_code
def yX5_sharesOfThose : MethodName := ⟨"LentBounds", "sharesOfThose", "(IIZ)J"⟩
abbrev cX5_heldByRows : ByteArray := prog_1_method_31_code
def yX5_heldByRows : MethodName := ⟨"LentBounds", "heldByRows", "(IIZ)J"⟩
abbrev cX5_isStuck : ByteArray := prog_1_method_32_code
def yX5_isStuck : MethodName := ⟨"LentBounds", "isStuck", "(I)Z"⟩
abbrev cL_lent : ByteArray := method_6_code
def yL_lent : MethodName := ⟨"LentBoundsLaw", "lent", "(LLentBounds;I[J)I"⟩
abbrev cX5_lent : ByteArray := prog_1_method_15_code
def yX5_lent : MethodName := ⟨"LentBounds", "lent", "(I)J"⟩
abbrev cL_waits : ByteArray := method_7_code
def yL_waits : MethodName := ⟨"LentBoundsLaw", "waits", "(LLentBounds;II[J)I"⟩
abbrev cX5_waits : ByteArray := prog_1_method_16_code
def yX5_waits : MethodName := ⟨"LentBounds", "waits", "(II)J"⟩
abbrev cX6_init : ByteArray := prog_8_method_1_code
def yX6_init : MethodName := ⟨"LentBoundsModel", "<init>", "()V"⟩
abbrev cX6_thrown : ByteArray := prog_8_method_2_code
def yX6_thrown : MethodName := ⟨"LentBoundsModel", "thrown", "()I"⟩
abbrev cX6_weigh : ByteArray := prog_8_method_9_code
def yX6_weigh : MethodName := ⟨"LentBoundsModel", "weigh", "(IJ)Z"⟩
abbrev cX6_isWell : ByteArray := prog_8_method_6_code
def yX6_isWell : MethodName := ⟨"LentBoundsModel", "isWell", "(I)Z"⟩
abbrev cX6_within : ByteArray := prog_8_method_4_code
def yX6_within : MethodName := ⟨"LentBoundsModel", "within", "(JJJ)Z"⟩
abbrev cX6_bound : ByteArray := prog_8_method_11_code
def yX6_bound : MethodName := ⟨"LentBoundsModel", "bound", "(JJJ)I"⟩
abbrev cX6_isTooGreat : ByteArray := prog_8_method_10_code
def yX6_isTooGreat : MethodName := ⟨"LentBoundsModel", "isTooGreat", "(JJ)Z"⟩
abbrev cX6_raise : ByteArray := prog_8_method_3_code
def yX6_raise : MethodName := ⟨"LentBoundsModel", "raise", "(I)I"⟩
abbrev cX6_split : ByteArray := prog_8_method_8_code
def yX6_split : MethodName := ⟨"LentBoundsModel", "split", "(JZ)V"⟩
abbrev cX6_at : ByteArray := prog_8_method_5_code
def yX6_at : MethodName := ⟨"LentBoundsModel", "at", "(III)I"⟩
abbrev cX6_patient : ByteArray := prog_8_method_12_code
def yX6_patient : MethodName := ⟨"LentBoundsModel", "patient", "(IZ)Z"⟩
abbrev cX6_take : ByteArray := prog_8_method_14_code
def yX6_take : MethodName := ⟨"LentBoundsModel", "take", "(IIJ)I"⟩
abbrev cX6_isBound : ByteArray := prog_8_method_7_code
def yX6_isBound : MethodName := ⟨"LentBoundsModel", "isBound", "(I)Z"⟩
abbrev cX6_move : ByteArray := prog_8_method_13_code
def yX6_move : MethodName := ⟨"LentBoundsModel", "move", "(IIJ)Z"⟩
abbrev cX6_lend : ByteArray := prog_8_method_17_code
def yX6_lend : MethodName := ⟨"LentBoundsModel", "lend", "(IIIIJ)I"⟩
abbrev cX6_add : ByteArray := prog_8_method_16_code
def yX6_add : MethodName := ⟨"LentBoundsModel", "add", "(IIIIJ)I"⟩
abbrev cX6_ask : ByteArray := prog_8_method_18_code
def yX6_ask : MethodName := ⟨"LentBoundsModel", "ask", "(IIIJ)I"⟩
abbrev cX6_deliver : ByteArray := prog_8_method_20_code
def yX6_deliver : MethodName := ⟨"LentBoundsModel", "deliver", "(I)I"⟩
abbrev cX6_isRow : ByteArray := prog_8_method_19_code
def yX6_isRow : MethodName := ⟨"LentBoundsModel", "isRow", "(I)Z"⟩
abbrev cX6_came : ByteArray := prog_8_method_15_code
def yX6_came : MethodName := ⟨"LentBoundsModel", "came", "(I)V"⟩
abbrev cX6_lose : ByteArray := prog_8_method_21_code
def yX6_lose : MethodName := ⟨"LentBoundsModel", "lose", "(I)Z"⟩
abbrev cX6_end : ByteArray := prog_8_method_22_code
def yX6_end : MethodName := ⟨"LentBoundsModel", "end", "(I)Z"⟩
abbrev cX6_isTold : ByteArray := prog_8_method_23_code
def yX6_isTold : MethodName := ⟨"LentBoundsModel", "isTold", "(I)Z"⟩
abbrev cX6_recover : ByteArray := prog_8_method_24_code
def yX6_recover : MethodName := ⟨"LentBoundsModel", "recover", "(I)V"⟩
abbrev cX6_vouch : ByteArray := prog_8_method_25_code
def yX6_vouch : MethodName := ⟨"LentBoundsModel", "vouch", "(II)I"⟩
abbrev cX6_share : ByteArray := prog_8_method_26_code
def yX6_share : MethodName := ⟨"LentBoundsModel", "share", "(III)J"⟩
abbrev cX6_sum : ByteArray := prog_8_method_29_code
def yX6_sum : MethodName := ⟨"LentBoundsModel", "sum", "(II)J"⟩
abbrev cX6_shares : ByteArray := prog_8_method_27_code
def yX6_shares : MethodName := ⟨"LentBoundsModel", "shares", "(IIZ)J"⟩
abbrev cX6_inRows : ByteArray := prog_8_method_28_code
def yX6_inRows : MethodName := ⟨"LentBoundsModel", "inRows", "(IIZ)J"⟩
abbrev cX6_row : ByteArray := prog_8_method_30_code
def yX6_row : MethodName := ⟨"LentBoundsModel", "row", "(II)I"⟩
abbrev cX6_lent : ByteArray := prog_8_method_31_code
def yX6_lent : MethodName := ⟨"LentBoundsModel", "lent", "(I)J"⟩
abbrev cX6_waits : ByteArray := prog_8_method_32_code
def yX6_waits : MethodName := ⟨"LentBoundsModel", "waits", "(II)J"⟩
abbrev cX6_person : ByteArray := prog_8_method_33_code
def yX6_person : MethodName := ⟨"LentBoundsModel", "person", "(II)I"⟩
abbrev cX6_total : ByteArray := prog_8_method_34_code
def yX6_total : MethodName := ⟨"LentBoundsModel", "total", "(I)I"⟩
abbrev cL_law : ByteArray := code
def yL_law : MethodName := ⟨"LentBoundsLaw", "law", "([I)Z"⟩
abbrev vwCl : List vw_C := [(RX0, TX0, 5), (RX1, TX1, 4), (RX2, TX2, 3), (RX3, TX3, 9), (RX4, TX4, 3), (RX5, TX5, 7), (RX6, TX6, 27)]
theorem ws_0 : Cond.selects "LentBounds" ⟨"LentBounds", "canAskFor", "(IIIJ)Z"⟩ ⟨"LentBounds", "canAskFor", "(IIIJ)Z"⟩ ∈ wa_T := wa_sel 0 (by decide +kernel) rfl
theorem ws_1 : Cond.selects "LentBounds" ⟨"LentBounds", "send", "(IIIIJ)I"⟩ ⟨"LentBounds", "send", "(IIIIJ)I"⟩ ∈ wa_T := wa_sel 1 (by decide +kernel) rfl
theorem ws_2 : Cond.selects "LentBounds" ⟨"LentBounds", "richestOther", "(III)I"⟩ ⟨"LentBounds", "richestOther", "(III)I"⟩ ∈ wa_T := wa_sel 2 (by decide +kernel) rfl
theorem ws_3 : Cond.selects "LentBounds" ⟨"LentBounds", "receive", "(IIIJ)V"⟩ ⟨"LentBounds", "receive", "(IIIJ)V"⟩ ∈ wa_T := wa_sel 3 (by decide +kernel) rfl
theorem ws_4 : Cond.selects "LentBounds" ⟨"LentBounds", "goFirst", "(I)Z"⟩ ⟨"LentBounds", "goFirst", "(I)Z"⟩ ∈ wa_T := wa_sel 4 (by decide +kernel) rfl
theorem ws_5 : Cond.selects "LentBounds" ⟨"LentBounds", "recover", "(I)V"⟩ ⟨"LentBounds", "recover", "(I)V"⟩ ∈ wa_T := wa_sel 5 (by decide +kernel) rfl
theorem ws_6 : Cond.selects "LentBounds" ⟨"LentBounds", "useEqualWeights", "()V"⟩ ⟨"LentBounds", "useEqualWeights", "()V"⟩ ∈ wa_T := wa_sel 6 (by decide +kernel) rfl
theorem ws_7 : Cond.selects "LentBounds$Splitter" ⟨"LentBounds$Splitter", "greatestRest", "()I"⟩ ⟨"LentBounds$Splitter", "greatestRest", "()I"⟩ ∈ wa_T := wa_sel 7 (by decide +kernel) rfl
theorem ws_9 : Cond.selects "LentBounds" ⟨"LentBounds", "useOwnWeights", "()V"⟩ ⟨"LentBounds", "useOwnWeights", "()V"⟩ ∈ wa_T := wa_sel 9 (by decide +kernel) rfl
theorem ws_10 : Cond.selects "LentBounds" ⟨"LentBounds", "sharesOfThose", "(IIZ)J"⟩ ⟨"LentBounds", "sharesOfThose", "(IIZ)J"⟩ ∈ wa_T := wa_sel 10 (by decide +kernel) rfl
theorem ws_11 : Cond.selects "LentBounds" ⟨"LentBounds", "heldByRows", "(IIZ)J"⟩ ⟨"LentBounds", "heldByRows", "(IIZ)J"⟩ ∈ wa_T := wa_sel 11 (by decide +kernel) rfl
theorem ws_12 : Cond.selects "LentBounds" ⟨"LentBounds", "isStuck", "(I)Z"⟩ ⟨"LentBounds", "isStuck", "(I)Z"⟩ ∈ wa_T := wa_sel 12 (by decide +kernel) rfl
theorem ws_13 : Cond.selects "LentBoundsModel" ⟨"LentBoundsModel", "isWell", "(I)Z"⟩ ⟨"LentBoundsModel", "isWell", "(I)Z"⟩ ∈ wa_T := wa_sel 13 (by decide +kernel) rfl
theorem ws_14 : Cond.selects "LentBoundsModel" ⟨"LentBoundsModel", "raise", "(I)I"⟩ ⟨"LentBoundsModel", "raise", "(I)I"⟩ ∈ wa_T := wa_sel 14 (by decide +kernel) rfl
theorem ws_15 : Cond.selects "LentBoundsModel" ⟨"LentBoundsModel", "split", "(JZ)V"⟩ ⟨"LentBoundsModel", "split", "(JZ)V"⟩ ∈ wa_T := wa_sel 15 (by decide +kernel) rfl
theorem ws_16 : Cond.selects "LentBoundsModel" ⟨"LentBoundsModel", "isBound", "(I)Z"⟩ ⟨"LentBoundsModel", "isBound", "(I)Z"⟩ ∈ wa_T := wa_sel 16 (by decide +kernel) rfl
theorem ws_17 : Cond.selects "LentBoundsModel" ⟨"LentBoundsModel", "move", "(IIJ)Z"⟩ ⟨"LentBoundsModel", "move", "(IIJ)Z"⟩ ∈ wa_T := wa_sel 17 (by decide +kernel) rfl
theorem ws_18 : Cond.selects "LentBoundsModel" ⟨"LentBoundsModel", "add", "(IIIIJ)I"⟩ ⟨"LentBoundsModel", "add", "(IIIIJ)I"⟩ ∈ wa_T := wa_sel 18 (by decide +kernel) rfl
theorem ws_19 : Cond.selects "LentBoundsModel" ⟨"LentBoundsModel", "isRow", "(I)Z"⟩ ⟨"LentBoundsModel", "isRow", "(I)Z"⟩ ∈ wa_T := wa_sel 19 (by decide +kernel) rfl
theorem ws_20 : Cond.selects "LentBoundsModel" ⟨"LentBoundsModel", "came", "(I)V"⟩ ⟨"LentBoundsModel", "came", "(I)V"⟩ ∈ wa_T := wa_sel 20 (by decide +kernel) rfl
theorem ws_21 : Cond.selects "LentBoundsModel" ⟨"LentBoundsModel", "isTold", "(I)Z"⟩ ⟨"LentBoundsModel", "isTold", "(I)Z"⟩ ∈ wa_T := wa_sel 21 (by decide +kernel) rfl
theorem ws_22 : Cond.selects "LentBoundsModel" ⟨"LentBoundsModel", "recover", "(I)V"⟩ ⟨"LentBoundsModel", "recover", "(I)V"⟩ ∈ wa_T := wa_sel 22 (by decide +kernel) rfl
theorem ws_23 : Cond.selects "LentBoundsModel" ⟨"LentBoundsModel", "shares", "(IIZ)J"⟩ ⟨"LentBoundsModel", "shares", "(IIZ)J"⟩ ∈ wa_T := wa_sel 23 (by decide +kernel) rfl
theorem ws_24 : Cond.selects "LentBoundsModel" ⟨"LentBoundsModel", "inRows", "(IIZ)J"⟩ ⟨"LentBoundsModel", "inRows", "(IIZ)J"⟩ ∈ wa_T := wa_sel 24 (by decide +kernel) rfl
end
section
theorem wd_0 : (Cond.initialized "LentBoundsLaw") ∈ wa_T := wa_in 0 (by decide +kernel) rfl
theorem wd_1 : (Cond.initialized "LentBounds") ∈ wa_T := wa_in 1 (by decide +kernel) rfl
theorem wd_2 : (Cond.initialized "LentBounds$People") ∈ wa_T := wa_in 2 (by decide +kernel) rfl
theorem wd_3 : (Cond.initialized "java/util/Arrays") ∈ wa_T := wa_in 3 (by decide +kernel) rfl
theorem wd_4 : (Cond.initialized "LentBounds$Bounds") ∈ wa_T := wa_in 4 (by decide +kernel) rfl
theorem wd_5 : (Cond.initialized "LentBounds$Rows") ∈ wa_T := wa_in 5 (by decide +kernel) rfl
theorem wd_6 : (Cond.initialized "LentBounds$Queues") ∈ wa_T := wa_in 6 (by decide +kernel) rfl
theorem wd_7 : (Cond.initialized "LentBounds$Splitter") ∈ wa_T := wa_in 7 (by decide +kernel) rfl
theorem wd_8 : (Cond.initialized "LentBoundsModel") ∈ wa_T := wa_in 8 (by decide +kernel) rfl
theorem wd_9 : (Cond.initialized "java/lang/Throwable") ∈ wa_T := wa_in 9 (by decide +kernel) rfl
theorem wd_10 : (Cond.initialized "java/lang/Exception") ∈ wa_T := wa_in 10 (by decide +kernel) rfl
theorem wd_11 : (Cond.initialized "java/lang/RuntimeException") ∈ wa_T := wa_in 11 (by decide +kernel) rfl
theorem wd_12 : (Cond.initialized "java/lang/IllegalArgumentException") ∈ wa_T := wa_in 12 (by decide +kernel) rfl
theorem wd_13 : (Cond.initialized "java/lang/ArithmeticException") ∈ wa_T := wa_in 13 (by decide +kernel) rfl
theorem wd_14 : (Cond.initialized "java/lang/IllegalStateException") ∈ wa_T := wa_in 14 (by decide +kernel) rfl
theorem wd_15 : (Cond.initialized "java/lang/Math") ∈ wa_T := wa_in 15 (by decide +kernel) rfl
theorem wd_16 : (Cond.initialized "java/util/NoSuchElementException") ∈ wa_T := wa_in 16 (by decide +kernel) rfl
theorem wd_17 : (Cond.initialized "java/lang/Integer") ∈ wa_T := wa_in 17 (by decide +kernel) rfl
theorem wd_18 : (Cond.classLink "LentBoundsLaw" 8 "LentBounds") ∈ wa_T := wa_in 18 (by decide +kernel) rfl
theorem wd_19 : (Cond.instantiable "LentBounds" 7) ∈ wa_T := wa_in 19 (by decide +kernel) rfl
theorem wd_20 : (Cond.methodLink "LentBoundsLaw" 36 ⟨"LentBounds", "<init>", "()V"⟩) ∈ wa_T := wa_in 20 (by decide +kernel) rfl
theorem wd_21 : (Cond.instanceMethod ⟨"LentBounds", "<init>", "()V"⟩) ∈ wa_T := wa_in 21 (by decide +kernel) rfl
theorem wd_22 : (Cond.code ⟨"LentBounds", "<init>", "()V"⟩ prog_1_method_1_code 1 none) ∈ wa_T := wa_in 22 (by decide +kernel) rfl
theorem wd_23 : (Cond.methodLink "LentBounds" 1 ⟨"java/lang/Object", "<init>", "()V"⟩) ∈ wa_T := wa_in 23 (by decide +kernel) rfl
theorem wd_24 : (Cond.instanceMethod ⟨"java/lang/Object", "<init>", "()V"⟩) ∈ wa_T := wa_in 24 (by decide +kernel) rfl
theorem wd_25 : (Cond.code ⟨"java/lang/Object", "<init>", "()V"⟩ object_method_1_code 1 none) ∈ wa_T := wa_in 25 (by decide +kernel) rfl
theorem wd_26 : (Cond.classLink "LentBounds" 7 "LentBounds$People") ∈ wa_T := wa_in 26 (by decide +kernel) rfl
theorem wd_27 : (Cond.instantiable "LentBounds$People" 4) ∈ wa_T := wa_in 27 (by decide +kernel) rfl
theorem wd_28 : (Cond.methodLink "LentBounds" 9 ⟨"LentBounds$People", "<init>", "()V"⟩) ∈ wa_T := wa_in 28 (by decide +kernel) rfl
theorem wd_29 : (Cond.instanceMethod ⟨"LentBounds$People", "<init>", "()V"⟩) ∈ wa_T := wa_in 29 (by decide +kernel) rfl
theorem wd_30 : (Cond.code ⟨"LentBounds$People", "<init>", "()V"⟩ prog_3_method_1_code 1 none) ∈ wa_T := wa_in 30 (by decide +kernel) rfl
theorem wd_31 : (Cond.methodLink "LentBounds$People" 3 ⟨"java/lang/Object", "<init>", "()V"⟩) ∈ wa_T := wa_in 31 (by decide +kernel) rfl
theorem wd_32 : (Cond.methodLink "LentBounds$People" 26 ⟨"java/util/Arrays", "fill", "([JJ)V"⟩) ∈ wa_T := wa_in 32 (by decide +kernel) rfl
theorem wd_33 : (Cond.static ⟨"java/util/Arrays", "fill", "([JJ)V"⟩) ∈ wa_T := wa_in 33 (by decide +kernel) rfl
theorem wd_34 : (Cond.code ⟨"java/util/Arrays", "fill", "([JJ)V"⟩ prog_18_method_101_code 5 none) ∈ wa_T := wa_in 34 (by decide +kernel) rfl
theorem wd_35 : (Cond.fieldLink "LentBounds$People" 9 "LentBounds$People" "weights" "[J") ∈ wa_T := wa_in 35 (by decide +kernel) rfl
theorem wd_36 : (Cond.fieldLink "LentBounds" 50 "LentBounds$People" "weights" "[J") ∈ wa_T := wa_in 36 (by decide +kernel) rfl
theorem wd_37 : (Cond.fieldLink "LentBounds$People" 15 "LentBounds$People" "patience" "[Z") ∈ wa_T := wa_in 37 (by decide +kernel) rfl
theorem wd_38 : (Cond.fieldLink "LentBounds" 101 "LentBounds$People" "patience" "[Z") ∈ wa_T := wa_in 38 (by decide +kernel) rfl
theorem wd_39 : (Cond.fieldLink "LentBounds$People" 19 "LentBounds$People" "states" "[I") ∈ wa_T := wa_in 39 (by decide +kernel) rfl
theorem wd_40 : (Cond.fieldLink "LentBounds" 172 "LentBounds$People" "states" "[I") ∈ wa_T := wa_in 40 (by decide +kernel) rfl
theorem wd_41 : (Cond.fieldLink "LentBounds$People" 23 "LentBounds$People" "tellers" "[I") ∈ wa_T := wa_in 41 (by decide +kernel) rfl
theorem wd_42 : (Cond.fieldLink "LentBounds" 232 "LentBounds$People" "tellers" "[I") ∈ wa_T := wa_in 42 (by decide +kernel) rfl
theorem wd_52 : (Cond.arrayClass .long) ∈ wa_T := wa_in 52 (by decide +kernel) rfl
theorem wd_53 : (Cond.arrayClass .boolean) ∈ wa_T := wa_in 53 (by decide +kernel) rfl
theorem wd_54 : (Cond.arrayClass .int) ∈ wa_T := wa_in 54 (by decide +kernel) rfl
theorem wd_55 : (Cond.classLink "LentBounds" 16 "LentBounds$Bounds") ∈ wa_T := wa_in 55 (by decide +kernel) rfl
theorem wd_56 : (Cond.instantiable "LentBounds$Bounds" 5) ∈ wa_T := wa_in 56 (by decide +kernel) rfl
theorem wd_58 : (Cond.instanceMethod ⟨"LentBounds$Bounds", "<init>", "()V"⟩) ∈ wa_T := wa_in 58 (by decide +kernel) rfl
theorem wd_59 : (Cond.code ⟨"LentBounds$Bounds", "<init>", "()V"⟩ prog_2_method_1_code 1 none) ∈ wa_T := wa_in 59 (by decide +kernel) rfl
theorem wd_60 : (Cond.methodLink "LentBounds$Bounds" 3 ⟨"java/lang/Object", "<init>", "()V"⟩) ∈ wa_T := wa_in 60 (by decide +kernel) rfl
theorem wd_61 : (Cond.classLink "LentBounds$Bounds" 21 "[[J") ∈ wa_T := wa_in 61 (by decide +kernel) rfl
theorem wd_63 : (Cond.fieldLink "LentBounds$Bounds" 26 "LentBounds$Bounds" "count" "I") ∈ wa_T := wa_in 63 (by decide +kernel) rfl
theorem wd_64 : (Cond.fieldLink "LentBounds" 77 "LentBounds$Bounds" "count" "I") ∈ wa_T := wa_in 64 (by decide +kernel) rfl
theorem wd_65 : (Cond.fieldLink "LentBounds$Bounds" 9 "LentBounds$Bounds" "floors" "[J") ∈ wa_T := wa_in 65 (by decide +kernel) rfl
theorem wd_66 : (Cond.fieldLink "LentBounds" 201 "LentBounds$Bounds" "floors" "[J") ∈ wa_T := wa_in 66 (by decide +kernel) rfl
theorem wd_67 : (Cond.fieldLink "LentBounds$Bounds" 15 "LentBounds$Bounds" "values" "[J") ∈ wa_T := wa_in 67 (by decide +kernel) rfl
theorem wd_68 : (Cond.fieldLink "LentBounds" 198 "LentBounds$Bounds" "values" "[J") ∈ wa_T := wa_in 68 (by decide +kernel) rfl
theorem wd_69 : (Cond.fieldLink "LentBounds$Bounds" 18 "LentBounds$Bounds" "ceilings" "[J") ∈ wa_T := wa_in 69 (by decide +kernel) rfl
theorem wd_70 : (Cond.fieldLink "LentBounds" 204 "LentBounds$Bounds" "ceilings" "[J") ∈ wa_T := wa_in 70 (by decide +kernel) rfl
theorem wd_71 : (Cond.fieldLink "LentBounds$Bounds" 23 "LentBounds$Bounds" "shares" "[[J") ∈ wa_T := wa_in 71 (by decide +kernel) rfl
theorem wd_83 : (Cond.classLink "LentBounds" 23 "LentBounds$Rows") ∈ wa_T := wa_in 83 (by decide +kernel) rfl
theorem wd_84 : (Cond.instantiable "LentBounds$Rows" 9) ∈ wa_T := wa_in 84 (by decide +kernel) rfl
theorem wd_86 : (Cond.instanceMethod ⟨"LentBounds$Rows", "<init>", "()V"⟩) ∈ wa_T := wa_in 86 (by decide +kernel) rfl
theorem wd_87 : (Cond.code ⟨"LentBounds$Rows", "<init>", "()V"⟩ prog_5_method_1_code 1 none) ∈ wa_T := wa_in 87 (by decide +kernel) rfl
theorem wd_88 : (Cond.methodLink "LentBounds$Rows" 3 ⟨"java/lang/Object", "<init>", "()V"⟩) ∈ wa_T := wa_in 88 (by decide +kernel) rfl
theorem wd_89 : (Cond.fieldLink "LentBounds$Rows" 37 "LentBounds$Rows" "count" "I") ∈ wa_T := wa_in 89 (by decide +kernel) rfl
theorem wd_90 : (Cond.fieldLink "LentBounds" 241 "LentBounds$Rows" "count" "I") ∈ wa_T := wa_in 90 (by decide +kernel) rfl
theorem wd_91 : (Cond.fieldLink "LentBounds$Rows" 9 "LentBounds$Rows" "boundOf" "[I") ∈ wa_T := wa_in 91 (by decide +kernel) rfl
theorem wd_92 : (Cond.fieldLink "LentBounds" 155 "LentBounds$Rows" "boundOf" "[I") ∈ wa_T := wa_in 92 (by decide +kernel) rfl
theorem wd_93 : (Cond.fieldLink "LentBounds$Rows" 15 "LentBounds$Rows" "sideOf" "[I") ∈ wa_T := wa_in 93 (by decide +kernel) rfl
theorem wd_94 : (Cond.fieldLink "LentBounds" 158 "LentBounds$Rows" "sideOf" "[I") ∈ wa_T := wa_in 94 (by decide +kernel) rfl
theorem wd_95 : (Cond.fieldLink "LentBounds$Rows" 18 "LentBounds$Rows" "lenders" "[I") ∈ wa_T := wa_in 95 (by decide +kernel) rfl
theorem wd_96 : (Cond.fieldLink "LentBounds" 216 "LentBounds$Rows" "lenders" "[I") ∈ wa_T := wa_in 96 (by decide +kernel) rfl
theorem wd_97 : (Cond.fieldLink "LentBounds$Rows" 21 "LentBounds$Rows" "borrowers" "[I") ∈ wa_T := wa_in 97 (by decide +kernel) rfl
theorem wd_98 : (Cond.fieldLink "LentBounds" 161 "LentBounds$Rows" "borrowers" "[I") ∈ wa_T := wa_in 98 (by decide +kernel) rfl
theorem wd_99 : (Cond.fieldLink "LentBounds$Rows" 24 "LentBounds$Rows" "states" "[I") ∈ wa_T := wa_in 99 (by decide +kernel) rfl
theorem wd_100 : (Cond.fieldLink "LentBounds" 148 "LentBounds$Rows" "states" "[I") ∈ wa_T := wa_in 100 (by decide +kernel) rfl
theorem wd_101 : (Cond.fieldLink "LentBounds$Rows" 27 "LentBounds$Rows" "deliveries" "[I") ∈ wa_T := wa_in 101 (by decide +kernel) rfl
theorem wd_102 : (Cond.fieldLink "LentBounds" 152 "LentBounds$Rows" "deliveries" "[I") ∈ wa_T := wa_in 102 (by decide +kernel) rfl
theorem wd_103 : (Cond.fieldLink "LentBounds$Rows" 30 "LentBounds$Rows" "amounts" "[J") ∈ wa_T := wa_in 103 (by decide +kernel) rfl
theorem wd_104 : (Cond.fieldLink "LentBounds" 221 "LentBounds$Rows" "amounts" "[J") ∈ wa_T := wa_in 104 (by decide +kernel) rfl
theorem wd_105 : (Cond.fieldLink "LentBounds$Rows" 34 "LentBounds$Rows" "held" "[J") ∈ wa_T := wa_in 105 (by decide +kernel) rfl
theorem wd_106 : (Cond.fieldLink "LentBounds" 277 "LentBounds$Rows" "held" "[J") ∈ wa_T := wa_in 106 (by decide +kernel) rfl
theorem wd_126 : (Cond.classLink "LentBounds" 30 "LentBounds$Queues") ∈ wa_T := wa_in 126 (by decide +kernel) rfl
theorem wd_127 : (Cond.instantiable "LentBounds$Queues" 3) ∈ wa_T := wa_in 127 (by decide +kernel) rfl
theorem wd_129 : (Cond.instanceMethod ⟨"LentBounds$Queues", "<init>", "()V"⟩) ∈ wa_T := wa_in 129 (by decide +kernel) rfl
theorem wd_130 : (Cond.code ⟨"LentBounds$Queues", "<init>", "()V"⟩ prog_4_method_1_code 1 none) ∈ wa_T := wa_in 130 (by decide +kernel) rfl
theorem wd_131 : (Cond.methodLink "LentBounds$Queues" 3 ⟨"java/lang/Object", "<init>", "()V"⟩) ∈ wa_T := wa_in 131 (by decide +kernel) rfl
theorem wd_132 : (Cond.classLink "LentBounds$Queues" 15 "[[I") ∈ wa_T := wa_in 132 (by decide +kernel) rfl
theorem wd_134 : (Cond.classLink "LentBounds$Queues" 20 "[[J") ∈ wa_T := wa_in 134 (by decide +kernel) rfl
theorem wd_135 : (Cond.fieldLink "LentBounds$Queues" 9 "LentBounds$Queues" "lengths" "[I") ∈ wa_T := wa_in 135 (by decide +kernel) rfl
theorem wd_136 : (Cond.fieldLink "LentBounds" 224 "LentBounds$Queues" "lengths" "[I") ∈ wa_T := wa_in 136 (by decide +kernel) rfl
theorem wd_137 : (Cond.fieldLink "LentBounds$Queues" 17 "LentBounds$Queues" "boundOf" "[[I") ∈ wa_T := wa_in 137 (by decide +kernel) rfl
theorem wd_138 : (Cond.fieldLink "LentBounds" 254 "LentBounds$Queues" "boundOf" "[[I") ∈ wa_T := wa_in 138 (by decide +kernel) rfl
theorem wd_139 : (Cond.fieldLink "LentBounds$Queues" 22 "LentBounds$Queues" "amounts" "[[J") ∈ wa_T := wa_in 139 (by decide +kernel) rfl
theorem wd_140 : (Cond.fieldLink "LentBounds" 229 "LentBounds$Queues" "amounts" "[[J") ∈ wa_T := wa_in 140 (by decide +kernel) rfl
theorem wd_148 : (Cond.classLink "LentBounds" 37 "LentBounds$Splitter") ∈ wa_T := wa_in 148 (by decide +kernel) rfl
theorem wd_149 : (Cond.instantiable "LentBounds$Splitter" 3) ∈ wa_T := wa_in 149 (by decide +kernel) rfl
theorem wd_151 : (Cond.instanceMethod ⟨"LentBounds$Splitter", "<init>", "()V"⟩) ∈ wa_T := wa_in 151 (by decide +kernel) rfl
theorem wd_152 : (Cond.code ⟨"LentBounds$Splitter", "<init>", "()V"⟩ prog_6_method_1_code 1 none) ∈ wa_T := wa_in 152 (by decide +kernel) rfl
theorem wd_153 : (Cond.methodLink "LentBounds$Splitter" 3 ⟨"java/lang/Object", "<init>", "()V"⟩) ∈ wa_T := wa_in 153 (by decide +kernel) rfl
theorem wd_154 : (Cond.fieldLink "LentBounds$Splitter" 9 "LentBounds$Splitter" "weights" "[J") ∈ wa_T := wa_in 154 (by decide +kernel) rfl
theorem wd_155 : (Cond.fieldLink "LentBounds" 269 "LentBounds$Splitter" "weights" "[J") ∈ wa_T := wa_in 155 (by decide +kernel) rfl
theorem wd_156 : (Cond.fieldLink "LentBounds$Splitter" 15 "LentBounds$Splitter" "parts" "[J") ∈ wa_T := wa_in 156 (by decide +kernel) rfl
theorem wd_157 : (Cond.fieldLink "LentBounds" 94 "LentBounds$Splitter" "parts" "[J") ∈ wa_T := wa_in 157 (by decide +kernel) rfl
theorem wd_158 : (Cond.fieldLink "LentBounds$Splitter" 18 "LentBounds$Splitter" "rests" "[J") ∈ wa_T := wa_in 158 (by decide +kernel) rfl
theorem wd_166 : (Cond.fieldLink "LentBounds" 10 "LentBounds" "people" "LLentBounds$People;") ∈ wa_T := wa_in 166 (by decide +kernel) rfl
theorem wd_167 : (Cond.fieldLink "LentBounds" 19 "LentBounds" "bounds" "LLentBounds$Bounds;") ∈ wa_T := wa_in 167 (by decide +kernel) rfl
theorem wd_168 : (Cond.fieldLink "LentBounds" 26 "LentBounds" "rows" "LLentBounds$Rows;") ∈ wa_T := wa_in 168 (by decide +kernel) rfl
theorem wd_169 : (Cond.fieldLink "LentBounds" 33 "LentBounds" "queues" "LLentBounds$Queues;") ∈ wa_T := wa_in 169 (by decide +kernel) rfl
theorem wd_170 : (Cond.fieldLink "LentBounds" 40 "LentBounds" "splitter" "LLentBounds$Splitter;") ∈ wa_T := wa_in 170 (by decide +kernel) rfl
theorem wd_171 : (Cond.fieldLink "LentBounds" 116 "LentBounds" "doneCount" "I") ∈ wa_T := wa_in 171 (by decide +kernel) rfl
theorem wd_172 : (Cond.fieldLink "LentBounds" 122 "LentBounds" "refusedCount" "I") ∈ wa_T := wa_in 172 (by decide +kernel) rfl
theorem wd_188 : (Cond.methodLink "LentBoundsLaw" 42 ⟨"LentBounds", "weigh", "(IJ)Z"⟩) ∈ wa_T := wa_in 188 (by decide +kernel) rfl
theorem wd_189 : (Cond.instanceMethod ⟨"LentBounds", "weigh", "(IJ)Z"⟩) ∈ wa_T := wa_in 189 (by decide +kernel) rfl
theorem wd_190 : (Cond.selects "LentBounds" ⟨"LentBounds", "weigh", "(IJ)Z"⟩ ⟨"LentBounds", "weigh", "(IJ)Z"⟩) ∈ wa_T := wa_in 190 (by decide +kernel) rfl
theorem wd_191 : (Cond.code ⟨"LentBounds", "weigh", "(IJ)Z"⟩ prog_1_method_2_code 4 (some .boolean)) ∈ wa_T := wa_in 191 (by decide +kernel) rfl
theorem wd_192 : (Cond.methodLink "LentBounds" 44 ⟨"LentBounds$People", "isWell", "(I)Z"⟩) ∈ wa_T := wa_in 192 (by decide +kernel) rfl
theorem wd_193 : (Cond.instanceMethod ⟨"LentBounds$People", "isWell", "(I)Z"⟩) ∈ wa_T := wa_in 193 (by decide +kernel) rfl
theorem wd_194 : (Cond.selects "LentBounds$People" ⟨"LentBounds$People", "isWell", "(I)Z"⟩ ⟨"LentBounds$People", "isWell", "(I)Z"⟩) ∈ wa_T := wa_in 194 (by decide +kernel) rfl
theorem wd_195 : (Cond.code ⟨"LentBounds$People", "isWell", "(I)Z"⟩ prog_3_method_3_code 2 (some .boolean)) ∈ wa_T := wa_in 195 (by decide +kernel) rfl
theorem wd_196 : (Cond.methodLink "LentBounds$People" 32 ⟨"LentBounds$People", "has", "(I)Z"⟩) ∈ wa_T := wa_in 196 (by decide +kernel) rfl
theorem wd_197 : (Cond.static ⟨"LentBounds$People", "has", "(I)Z"⟩) ∈ wa_T := wa_in 197 (by decide +kernel) rfl
theorem wd_198 : (Cond.code ⟨"LentBounds$People", "has", "(I)Z"⟩ prog_3_method_2_code 1 (some .boolean)) ∈ wa_T := wa_in 198 (by decide +kernel) rfl
theorem wd_199 : (Cond.constantLong "LentBounds" 48 1000000) ∈ wa_T := wa_in 199 (by decide +kernel) rfl
theorem wd_200 : (Cond.methodLink "LentBoundsLaw" 57 ⟨"LentBounds", "patient", "(IZ)Z"⟩) ∈ wa_T := wa_in 200 (by decide +kernel) rfl
theorem wd_201 : (Cond.instanceMethod ⟨"LentBounds", "patient", "(IZ)Z"⟩) ∈ wa_T := wa_in 201 (by decide +kernel) rfl
theorem wd_202 : (Cond.selects "LentBounds" ⟨"LentBounds", "patient", "(IZ)Z"⟩ ⟨"LentBounds", "patient", "(IZ)Z"⟩) ∈ wa_T := wa_in 202 (by decide +kernel) rfl
theorem wd_203 : (Cond.code ⟨"LentBounds", "patient", "(IZ)Z"⟩ prog_1_method_4_code 3 (some .boolean)) ∈ wa_T := wa_in 203 (by decide +kernel) rfl
theorem wd_204 : (Cond.methodLink "LentBoundsLaw" 62 ⟨"LentBounds", "take", "(IIJ)I"⟩) ∈ wa_T := wa_in 204 (by decide +kernel) rfl
theorem wd_205 : (Cond.instanceMethod ⟨"LentBounds", "take", "(IIJ)I"⟩) ∈ wa_T := wa_in 205 (by decide +kernel) rfl
theorem wd_206 : (Cond.selects "LentBounds" ⟨"LentBounds", "take", "(IIJ)I"⟩ ⟨"LentBounds", "take", "(IIJ)I"⟩) ∈ wa_T := wa_in 206 (by decide +kernel) rfl
theorem wd_207 : (Cond.code ⟨"LentBounds", "take", "(IIJ)I"⟩ prog_1_method_5_code 5 (some .int)) ∈ wa_T := wa_in 207 (by decide +kernel) rfl
theorem wd_208 : (Cond.methodLink "LentBounds" 105 ⟨"LentBounds$Bounds", "has", "(I)Z"⟩) ∈ wa_T := wa_in 208 (by decide +kernel) rfl
theorem wd_209 : (Cond.instanceMethod ⟨"LentBounds$Bounds", "has", "(I)Z"⟩) ∈ wa_T := wa_in 209 (by decide +kernel) rfl
theorem wd_210 : (Cond.selects "LentBounds$Bounds" ⟨"LentBounds$Bounds", "has", "(I)Z"⟩ ⟨"LentBounds$Bounds", "has", "(I)Z"⟩) ∈ wa_T := wa_in 210 (by decide +kernel) rfl
theorem wd_211 : (Cond.code ⟨"LentBounds$Bounds", "has", "(I)Z"⟩ prog_2_method_2_code 2 (some .boolean)) ∈ wa_T := wa_in 211 (by decide +kernel) rfl
theorem wd_212 : (Cond.constantLong "LentBounds" 108 (-1000000000000)) ∈ wa_T := wa_in 212 (by decide +kernel) rfl
theorem wd_213 : (Cond.constantLong "LentBounds" 110 1000000000000) ∈ wa_T := wa_in 213 (by decide +kernel) rfl
theorem wd_214 : (Cond.methodLink "LentBounds" 112 ⟨"LentBounds$Bounds", "move", "(IIJ)Z"⟩) ∈ wa_T := wa_in 214 (by decide +kernel) rfl
theorem wd_215 : (Cond.instanceMethod ⟨"LentBounds$Bounds", "move", "(IIJ)Z"⟩) ∈ wa_T := wa_in 215 (by decide +kernel) rfl
theorem wd_216 : (Cond.selects "LentBounds$Bounds" ⟨"LentBounds$Bounds", "move", "(IIJ)Z"⟩ ⟨"LentBounds$Bounds", "move", "(IIJ)Z"⟩) ∈ wa_T := wa_in 216 (by decide +kernel) rfl
theorem wd_217 : (Cond.code ⟨"LentBounds$Bounds", "move", "(IIJ)Z"⟩ prog_2_method_8_code 7 (some .boolean)) ∈ wa_T := wa_in 217 (by decide +kernel) rfl
theorem wd_218 : (Cond.methodLink "LentBounds$Bounds" 30 ⟨"LentBounds$Bounds", "shareOf", "(III)J"⟩) ∈ wa_T := wa_in 218 (by decide +kernel) rfl
theorem wd_219 : (Cond.instanceMethod ⟨"LentBounds$Bounds", "shareOf", "(III)J"⟩) ∈ wa_T := wa_in 219 (by decide +kernel) rfl
theorem wd_220 : (Cond.selects "LentBounds$Bounds" ⟨"LentBounds$Bounds", "shareOf", "(III)J"⟩ ⟨"LentBounds$Bounds", "shareOf", "(III)J"⟩) ∈ wa_T := wa_in 220 (by decide +kernel) rfl
theorem wd_221 : (Cond.code ⟨"LentBounds$Bounds", "shareOf", "(III)J"⟩ prog_2_method_5_code 4 (some .long)) ∈ wa_T := wa_in 221 (by decide +kernel) rfl
theorem wd_222 : (Cond.methodLink "LentBounds$Bounds" 38 ⟨"java/lang/Math", "abs", "(J)J"⟩) ∈ wa_T := wa_in 222 (by decide +kernel) rfl
theorem wd_223 : (Cond.static ⟨"java/lang/Math", "abs", "(J)J"⟩) ∈ wa_T := wa_in 223 (by decide +kernel) rfl
theorem wd_224 : (Cond.code ⟨"java/lang/Math", "abs", "(J)J"⟩ prog_14_method_61_code 2 (some .long)) ∈ wa_T := wa_in 224 (by decide +kernel) rfl
theorem wd_225 : (Cond.methodLink "LentBounds$Bounds" 34 ⟨"LentBounds$Bounds", "addToShare", "(IIIJ)V"⟩) ∈ wa_T := wa_in 225 (by decide +kernel) rfl
theorem wd_226 : (Cond.instanceMethod ⟨"LentBounds$Bounds", "addToShare", "(IIIJ)V"⟩) ∈ wa_T := wa_in 226 (by decide +kernel) rfl
theorem wd_227 : (Cond.selects "LentBounds$Bounds" ⟨"LentBounds$Bounds", "addToShare", "(IIIJ)V"⟩ ⟨"LentBounds$Bounds", "addToShare", "(IIIJ)V"⟩) ∈ wa_T := wa_in 227 (by decide +kernel) rfl
theorem wd_228 : (Cond.code ⟨"LentBounds$Bounds", "addToShare", "(IIIJ)V"⟩ prog_2_method_6_code 6 none) ∈ wa_T := wa_in 228 (by decide +kernel) rfl
theorem wd_229 : (Cond.methodLink "LentBounds" 119 ⟨"LentBounds$Queues", "append", "(IIJ)Z"⟩) ∈ wa_T := wa_in 229 (by decide +kernel) rfl
theorem wd_230 : (Cond.instanceMethod ⟨"LentBounds$Queues", "append", "(IIJ)Z"⟩) ∈ wa_T := wa_in 230 (by decide +kernel) rfl
theorem wd_231 : (Cond.selects "LentBounds$Queues" ⟨"LentBounds$Queues", "append", "(IIJ)Z"⟩ ⟨"LentBounds$Queues", "append", "(IIJ)Z"⟩) ∈ wa_T := wa_in 231 (by decide +kernel) rfl
theorem wd_232 : (Cond.code ⟨"LentBounds$Queues", "append", "(IIJ)Z"⟩ prog_4_method_2_code 6 (some .boolean)) ∈ wa_T := wa_in 232 (by decide +kernel) rfl
theorem wd_233 : (Cond.methodLink "LentBoundsLaw" 67 ⟨"LentBounds", "lend", "(IIIIJ)I"⟩) ∈ wa_T := wa_in 233 (by decide +kernel) rfl
theorem wd_234 : (Cond.instanceMethod ⟨"LentBounds", "lend", "(IIIIJ)I"⟩) ∈ wa_T := wa_in 234 (by decide +kernel) rfl
theorem wd_235 : (Cond.selects "LentBounds" ⟨"LentBounds", "lend", "(IIIIJ)I"⟩ ⟨"LentBounds", "lend", "(IIIIJ)I"⟩) ∈ wa_T := wa_in 235 (by decide +kernel) rfl
theorem wd_236 : (Cond.code ⟨"LentBounds", "lend", "(IIIIJ)I"⟩ prog_1_method_6_code 7 (some .int)) ∈ wa_T := wa_in 236 (by decide +kernel) rfl
theorem wd_237 : (Cond.methodLink "LentBounds" 125 ⟨"LentBounds", "canAskFor", "(IIIJ)Z"⟩) ∈ wa_T := wa_in 237 (by decide +kernel) rfl
theorem wd_239 : (Cond.instanceMethod ⟨"LentBounds", "canAskFor", "(IIIJ)Z"⟩) ∈ wa_T := wa_in 239 (by decide +kernel) rfl
theorem wd_240 : (Cond.code ⟨"LentBounds", "canAskFor", "(IIIJ)Z"⟩ prog_1_method_22_code 6 (some .boolean)) ∈ wa_T := wa_in 240 (by decide +kernel) rfl
theorem wd_241 : (Cond.methodLink "LentBounds" 188 ⟨"LentBounds", "isSide", "(I)Z"⟩) ∈ wa_T := wa_in 241 (by decide +kernel) rfl
theorem wd_242 : (Cond.static ⟨"LentBounds", "isSide", "(I)Z"⟩) ∈ wa_T := wa_in 242 (by decide +kernel) rfl
theorem wd_243 : (Cond.code ⟨"LentBounds", "isSide", "(I)Z"⟩ prog_1_method_21_code 1 (some .boolean)) ∈ wa_T := wa_in 243 (by decide +kernel) rfl
theorem wd_244 : (Cond.methodLink "LentBounds" 129 ⟨"LentBounds$Bounds", "shareOf", "(III)J"⟩) ∈ wa_T := wa_in 244 (by decide +kernel) rfl
theorem wd_245 : (Cond.methodLink "LentBounds" 133 ⟨"LentBounds", "send", "(IIIIJ)I"⟩) ∈ wa_T := wa_in 245 (by decide +kernel) rfl
theorem wd_247 : (Cond.instanceMethod ⟨"LentBounds", "send", "(IIIIJ)I"⟩) ∈ wa_T := wa_in 247 (by decide +kernel) rfl
theorem wd_248 : (Cond.code ⟨"LentBounds", "send", "(IIIIJ)I"⟩ prog_1_method_24_code 7 (some .int)) ∈ wa_T := wa_in 248 (by decide +kernel) rfl
theorem wd_249 : (Cond.methodLink "LentBounds" 246 ⟨"LentBounds$Bounds", "addToShare", "(IIIJ)V"⟩) ∈ wa_T := wa_in 249 (by decide +kernel) rfl
theorem wd_250 : (Cond.methodLink "LentBounds" 249 ⟨"LentBounds$Rows", "open", "(IIIIJ)I"⟩) ∈ wa_T := wa_in 250 (by decide +kernel) rfl
theorem wd_251 : (Cond.instanceMethod ⟨"LentBounds$Rows", "open", "(IIIIJ)I"⟩) ∈ wa_T := wa_in 251 (by decide +kernel) rfl
theorem wd_252 : (Cond.selects "LentBounds$Rows" ⟨"LentBounds$Rows", "open", "(IIIIJ)I"⟩ ⟨"LentBounds$Rows", "open", "(IIIIJ)I"⟩) ∈ wa_T := wa_in 252 (by decide +kernel) rfl
theorem wd_253 : (Cond.code ⟨"LentBounds$Rows", "open", "(IIIIJ)I"⟩ prog_5_method_4_code 7 (some .int)) ∈ wa_T := wa_in 253 (by decide +kernel) rfl
theorem wd_254 : (Cond.methodLink "LentBoundsLaw" 72 ⟨"LentBounds", "ask", "(IIIJ)I"⟩) ∈ wa_T := wa_in 254 (by decide +kernel) rfl
theorem wd_255 : (Cond.instanceMethod ⟨"LentBounds", "ask", "(IIIJ)I"⟩) ∈ wa_T := wa_in 255 (by decide +kernel) rfl
theorem wd_256 : (Cond.selects "LentBounds" ⟨"LentBounds", "ask", "(IIIJ)I"⟩ ⟨"LentBounds", "ask", "(IIIJ)I"⟩) ∈ wa_T := wa_in 256 (by decide +kernel) rfl
theorem wd_257 : (Cond.code ⟨"LentBounds", "ask", "(IIIJ)I"⟩ prog_1_method_7_code 7 (some .int)) ∈ wa_T := wa_in 257 (by decide +kernel) rfl
theorem wd_258 : (Cond.methodLink "LentBounds" 137 ⟨"LentBounds", "richestOther", "(III)I"⟩) ∈ wa_T := wa_in 258 (by decide +kernel) rfl
theorem wd_260 : (Cond.instanceMethod ⟨"LentBounds", "richestOther", "(III)I"⟩) ∈ wa_T := wa_in 260 (by decide +kernel) rfl
theorem wd_261 : (Cond.code ⟨"LentBounds", "richestOther", "(III)I"⟩ prog_1_method_23_code 8 (some .int)) ∈ wa_T := wa_in 261 (by decide +kernel) rfl
theorem wd_262 : (Cond.methodLink "LentBounds" 141 ⟨"java/lang/Math", "min", "(JJ)J"⟩) ∈ wa_T := wa_in 262 (by decide +kernel) rfl
theorem wd_263 : (Cond.static ⟨"java/lang/Math", "min", "(JJ)J"⟩) ∈ wa_T := wa_in 263 (by decide +kernel) rfl
theorem wd_264 : (Cond.code ⟨"java/lang/Math", "min", "(JJ)J"⟩ prog_14_method_70_code 4 (some .long)) ∈ wa_T := wa_in 264 (by decide +kernel) rfl
theorem wd_265 : (Cond.methodLink "LentBoundsLaw" 77 ⟨"LentBounds", "deliver", "(I)I"⟩) ∈ wa_T := wa_in 265 (by decide +kernel) rfl
theorem wd_266 : (Cond.instanceMethod ⟨"LentBounds", "deliver", "(I)I"⟩) ∈ wa_T := wa_in 266 (by decide +kernel) rfl
theorem wd_267 : (Cond.selects "LentBounds" ⟨"LentBounds", "deliver", "(I)I"⟩ ⟨"LentBounds", "deliver", "(I)I"⟩) ∈ wa_T := wa_in 267 (by decide +kernel) rfl
theorem wd_268 : (Cond.code ⟨"LentBounds", "deliver", "(I)I"⟩ prog_1_method_8_code 2 (some .int)) ∈ wa_T := wa_in 268 (by decide +kernel) rfl
theorem wd_269 : (Cond.methodLink "LentBounds" 147 ⟨"LentBounds$Rows", "has", "(I)Z"⟩) ∈ wa_T := wa_in 269 (by decide +kernel) rfl
theorem wd_270 : (Cond.instanceMethod ⟨"LentBounds$Rows", "has", "(I)Z"⟩) ∈ wa_T := wa_in 270 (by decide +kernel) rfl
theorem wd_271 : (Cond.selects "LentBounds$Rows" ⟨"LentBounds$Rows", "has", "(I)Z"⟩ ⟨"LentBounds$Rows", "has", "(I)Z"⟩) ∈ wa_T := wa_in 271 (by decide +kernel) rfl
theorem wd_272 : (Cond.code ⟨"LentBounds$Rows", "has", "(I)Z"⟩ prog_5_method_2_code 2 (some .boolean)) ∈ wa_T := wa_in 272 (by decide +kernel) rfl
theorem wd_273 : (Cond.methodLink "LentBounds" 164 ⟨"LentBounds$Rows", "empty", "(I)J"⟩) ∈ wa_T := wa_in 273 (by decide +kernel) rfl
theorem wd_274 : (Cond.instanceMethod ⟨"LentBounds$Rows", "empty", "(I)J"⟩) ∈ wa_T := wa_in 274 (by decide +kernel) rfl
theorem wd_275 : (Cond.selects "LentBounds$Rows" ⟨"LentBounds$Rows", "empty", "(I)J"⟩ ⟨"LentBounds$Rows", "empty", "(I)J"⟩) ∈ wa_T := wa_in 275 (by decide +kernel) rfl
theorem wd_276 : (Cond.code ⟨"LentBounds$Rows", "empty", "(I)J"⟩ prog_5_method_5_code 4 (some .long)) ∈ wa_T := wa_in 276 (by decide +kernel) rfl
theorem wd_277 : (Cond.methodLink "LentBounds" 168 ⟨"LentBounds", "receive", "(IIIJ)V"⟩) ∈ wa_T := wa_in 277 (by decide +kernel) rfl
theorem wd_279 : (Cond.instanceMethod ⟨"LentBounds", "receive", "(IIIJ)V"⟩) ∈ wa_T := wa_in 279 (by decide +kernel) rfl
theorem wd_280 : (Cond.code ⟨"LentBounds", "receive", "(IIIJ)V"⟩ prog_1_method_25_code 7 none) ∈ wa_T := wa_in 280 (by decide +kernel) rfl
theorem wd_281 : (Cond.methodLink "LentBounds" 251 ⟨"LentBounds", "goFirst", "(I)Z"⟩) ∈ wa_T := wa_in 281 (by decide +kernel) rfl
theorem wd_283 : (Cond.instanceMethod ⟨"LentBounds", "goFirst", "(I)Z"⟩) ∈ wa_T := wa_in 283 (by decide +kernel) rfl
theorem wd_284 : (Cond.code ⟨"LentBounds", "goFirst", "(I)Z"⟩ prog_1_method_26_code 2 (some .boolean)) ∈ wa_T := wa_in 284 (by decide +kernel) rfl
theorem wd_285 : (Cond.methodLink "LentBounds" 257 ⟨"LentBounds$Queues", "removeFirst", "(I)V"⟩) ∈ wa_T := wa_in 285 (by decide +kernel) rfl
theorem wd_286 : (Cond.instanceMethod ⟨"LentBounds$Queues", "removeFirst", "(I)V"⟩) ∈ wa_T := wa_in 286 (by decide +kernel) rfl
theorem wd_287 : (Cond.selects "LentBounds$Queues" ⟨"LentBounds$Queues", "removeFirst", "(I)V"⟩ ⟨"LentBounds$Queues", "removeFirst", "(I)V"⟩) ∈ wa_T := wa_in 287 (by decide +kernel) rfl
theorem wd_288 : (Cond.code ⟨"LentBounds$Queues", "removeFirst", "(I)V"⟩ prog_4_method_3_code 3 none) ∈ wa_T := wa_in 288 (by decide +kernel) rfl
theorem wd_289 : (Cond.methodLink "LentBoundsLaw" 82 ⟨"LentBounds", "lose", "(I)Z"⟩) ∈ wa_T := wa_in 289 (by decide +kernel) rfl
theorem wd_290 : (Cond.instanceMethod ⟨"LentBounds", "lose", "(I)Z"⟩) ∈ wa_T := wa_in 290 (by decide +kernel) rfl
theorem wd_291 : (Cond.selects "LentBounds" ⟨"LentBounds", "lose", "(I)Z"⟩ ⟨"LentBounds", "lose", "(I)Z"⟩) ∈ wa_T := wa_in 291 (by decide +kernel) rfl
theorem wd_292 : (Cond.code ⟨"LentBounds", "lose", "(I)Z"⟩ prog_1_method_9_code 2 (some .boolean)) ∈ wa_T := wa_in 292 (by decide +kernel) rfl
theorem wd_293 : (Cond.methodLink "LentBoundsLaw" 87 ⟨"LentBounds", "end", "(I)Z"⟩) ∈ wa_T := wa_in 293 (by decide +kernel) rfl
theorem wd_294 : (Cond.instanceMethod ⟨"LentBounds", "end", "(I)Z"⟩) ∈ wa_T := wa_in 294 (by decide +kernel) rfl
theorem wd_295 : (Cond.selects "LentBounds" ⟨"LentBounds", "end", "(I)Z"⟩ ⟨"LentBounds", "end", "(I)Z"⟩) ∈ wa_T := wa_in 295 (by decide +kernel) rfl
theorem wd_296 : (Cond.code ⟨"LentBounds", "end", "(I)Z"⟩ prog_1_method_10_code 3 (some .boolean)) ∈ wa_T := wa_in 296 (by decide +kernel) rfl
theorem wd_297 : (Cond.methodLink "LentBounds" 173 ⟨"LentBounds$Queues", "clear", "(I)V"⟩) ∈ wa_T := wa_in 297 (by decide +kernel) rfl
theorem wd_298 : (Cond.instanceMethod ⟨"LentBounds$Queues", "clear", "(I)V"⟩) ∈ wa_T := wa_in 298 (by decide +kernel) rfl
theorem wd_299 : (Cond.selects "LentBounds$Queues" ⟨"LentBounds$Queues", "clear", "(I)V"⟩ ⟨"LentBounds$Queues", "clear", "(I)V"⟩) ∈ wa_T := wa_in 299 (by decide +kernel) rfl
theorem wd_300 : (Cond.code ⟨"LentBounds$Queues", "clear", "(I)V"⟩ prog_4_method_4_code 2 none) ∈ wa_T := wa_in 300 (by decide +kernel) rfl
theorem wd_301 : (Cond.methodLink "LentBounds" 177 ⟨"LentBounds$People", "canBeRecovered", "(I)Z"⟩) ∈ wa_T := wa_in 301 (by decide +kernel) rfl
theorem wd_302 : (Cond.instanceMethod ⟨"LentBounds$People", "canBeRecovered", "(I)Z"⟩) ∈ wa_T := wa_in 302 (by decide +kernel) rfl
theorem wd_303 : (Cond.selects "LentBounds$People" ⟨"LentBounds$People", "canBeRecovered", "(I)Z"⟩ ⟨"LentBounds$People", "canBeRecovered", "(I)Z"⟩) ∈ wa_T := wa_in 303 (by decide +kernel) rfl
theorem wd_304 : (Cond.code ⟨"LentBounds$People", "canBeRecovered", "(I)Z"⟩ prog_3_method_5_code 4 (some .boolean)) ∈ wa_T := wa_in 304 (by decide +kernel) rfl
theorem wd_305 : (Cond.methodLink "LentBounds" 180 ⟨"LentBounds", "recover", "(I)V"⟩) ∈ wa_T := wa_in 305 (by decide +kernel) rfl
theorem wd_307 : (Cond.instanceMethod ⟨"LentBounds", "recover", "(I)V"⟩) ∈ wa_T := wa_in 307 (by decide +kernel) rfl
theorem wd_308 : (Cond.code ⟨"LentBounds", "recover", "(I)V"⟩ prog_1_method_27_code 5 none) ∈ wa_T := wa_in 308 (by decide +kernel) rfl
theorem wd_309 : (Cond.methodLink "LentBounds" 260 ⟨"LentBounds", "useEqualWeights", "()V"⟩) ∈ wa_T := wa_in 309 (by decide +kernel) rfl
theorem wd_311 : (Cond.instanceMethod ⟨"LentBounds", "useEqualWeights", "()V"⟩) ∈ wa_T := wa_in 311 (by decide +kernel) rfl
theorem wd_312 : (Cond.code ⟨"LentBounds", "useEqualWeights", "()V"⟩ prog_1_method_29_code 2 none) ∈ wa_T := wa_in 312 (by decide +kernel) rfl
theorem wd_313 : (Cond.methodLink "LentBounds" 263 ⟨"LentBounds$Bounds", "emptyShare", "(III)J"⟩) ∈ wa_T := wa_in 313 (by decide +kernel) rfl
theorem wd_314 : (Cond.instanceMethod ⟨"LentBounds$Bounds", "emptyShare", "(III)J"⟩) ∈ wa_T := wa_in 314 (by decide +kernel) rfl
theorem wd_315 : (Cond.selects "LentBounds$Bounds" ⟨"LentBounds$Bounds", "emptyShare", "(III)J"⟩ ⟨"LentBounds$Bounds", "emptyShare", "(III)J"⟩) ∈ wa_T := wa_in 315 (by decide +kernel) rfl
theorem wd_316 : (Cond.code ⟨"LentBounds$Bounds", "emptyShare", "(III)J"⟩ prog_2_method_7_code 6 (some .long)) ∈ wa_T := wa_in 316 (by decide +kernel) rfl
theorem wd_317 : (Cond.methodLink "LentBounds" 266 ⟨"LentBounds$Rows", "callBack", "(III)J"⟩) ∈ wa_T := wa_in 317 (by decide +kernel) rfl
theorem wd_318 : (Cond.instanceMethod ⟨"LentBounds$Rows", "callBack", "(III)J"⟩) ∈ wa_T := wa_in 318 (by decide +kernel) rfl
theorem wd_319 : (Cond.selects "LentBounds$Rows" ⟨"LentBounds$Rows", "callBack", "(III)J"⟩ ⟨"LentBounds$Rows", "callBack", "(III)J"⟩) ∈ wa_T := wa_in 319 (by decide +kernel) rfl
theorem wd_320 : (Cond.code ⟨"LentBounds$Rows", "callBack", "(III)J"⟩ prog_5_method_6_code 8 (some .long)) ∈ wa_T := wa_in 320 (by decide +kernel) rfl
theorem wd_321 : (Cond.methodLink "LentBounds$Rows" 41 ⟨"LentBounds$Rows", "isOf", "(III)Z"⟩) ∈ wa_T := wa_in 321 (by decide +kernel) rfl
theorem wd_322 : (Cond.instanceMethod ⟨"LentBounds$Rows", "isOf", "(III)Z"⟩) ∈ wa_T := wa_in 322 (by decide +kernel) rfl
theorem wd_323 : (Cond.selects "LentBounds$Rows" ⟨"LentBounds$Rows", "isOf", "(III)Z"⟩ ⟨"LentBounds$Rows", "isOf", "(III)Z"⟩) ∈ wa_T := wa_in 323 (by decide +kernel) rfl
theorem wd_324 : (Cond.code ⟨"LentBounds$Rows", "isOf", "(III)Z"⟩ prog_5_method_3_code 4 (some .boolean)) ∈ wa_T := wa_in 324 (by decide +kernel) rfl
theorem wd_325 : (Cond.methodLink "LentBounds$Rows" 45 ⟨"LentBounds$Rows", "empty", "(I)J"⟩) ∈ wa_T := wa_in 325 (by decide +kernel) rfl
theorem wd_326 : (Cond.methodLink "LentBounds" 90 ⟨"LentBounds$Splitter", "split", "(J)V"⟩) ∈ wa_T := wa_in 326 (by decide +kernel) rfl
theorem wd_327 : (Cond.instanceMethod ⟨"LentBounds$Splitter", "split", "(J)V"⟩) ∈ wa_T := wa_in 327 (by decide +kernel) rfl
theorem wd_328 : (Cond.selects "LentBounds$Splitter" ⟨"LentBounds$Splitter", "split", "(J)V"⟩ ⟨"LentBounds$Splitter", "split", "(J)V"⟩) ∈ wa_T := wa_in 328 (by decide +kernel) rfl
theorem wd_329 : (Cond.code ⟨"LentBounds$Splitter", "split", "(J)V"⟩ prog_6_method_3_code 10 none) ∈ wa_T := wa_in 329 (by decide +kernel) rfl
theorem wd_330 : (Cond.methodLink "LentBounds$Splitter" 21 ⟨"LentBounds$Splitter", "allWeights", "()J"⟩) ∈ wa_T := wa_in 330 (by decide +kernel) rfl
theorem wd_331 : (Cond.instanceMethod ⟨"LentBounds$Splitter", "allWeights", "()J"⟩) ∈ wa_T := wa_in 331 (by decide +kernel) rfl
theorem wd_332 : (Cond.selects "LentBounds$Splitter" ⟨"LentBounds$Splitter", "allWeights", "()J"⟩ ⟨"LentBounds$Splitter", "allWeights", "()J"⟩) ∈ wa_T := wa_in 332 (by decide +kernel) rfl
theorem wd_333 : (Cond.code ⟨"LentBounds$Splitter", "allWeights", "()J"⟩ prog_6_method_2_code 4 (some .long)) ∈ wa_T := wa_in 333 (by decide +kernel) rfl
theorem wd_334 : (Cond.methodLink "LentBounds$Splitter" 25 ⟨"java/util/Arrays", "fill", "([JJ)V"⟩) ∈ wa_T := wa_in 334 (by decide +kernel) rfl
theorem wd_335 : (Cond.methodLink "LentBounds$Splitter" 31 ⟨"LentBounds$Splitter", "greatestRest", "()I"⟩) ∈ wa_T := wa_in 335 (by decide +kernel) rfl
theorem wd_337 : (Cond.instanceMethod ⟨"LentBounds$Splitter", "greatestRest", "()I"⟩) ∈ wa_T := wa_in 337 (by decide +kernel) rfl
theorem wd_338 : (Cond.code ⟨"LentBounds$Splitter", "greatestRest", "()I"⟩ prog_6_method_4_code 3 (some .int)) ∈ wa_T := wa_in 338 (by decide +kernel) rfl
theorem wd_339 : (Cond.constantLong "LentBounds$Splitter" 35 (-1)) ∈ wa_T := wa_in 339 (by decide +kernel) rfl
theorem wd_340 : (Cond.methodLink "LentBoundsLaw" 91 ⟨"LentBounds", "vouch", "(II)I"⟩) ∈ wa_T := wa_in 340 (by decide +kernel) rfl
theorem wd_341 : (Cond.instanceMethod ⟨"LentBounds", "vouch", "(II)I"⟩) ∈ wa_T := wa_in 341 (by decide +kernel) rfl
theorem wd_342 : (Cond.selects "LentBounds" ⟨"LentBounds", "vouch", "(II)I"⟩ ⟨"LentBounds", "vouch", "(II)I"⟩) ∈ wa_T := wa_in 342 (by decide +kernel) rfl
theorem wd_343 : (Cond.code ⟨"LentBounds", "vouch", "(II)I"⟩ prog_1_method_11_code 3 (some .int)) ∈ wa_T := wa_in 343 (by decide +kernel) rfl
theorem wd_344 : (Cond.methodLink "LentBounds" 183 ⟨"LentBounds$People", "has", "(I)Z"⟩) ∈ wa_T := wa_in 344 (by decide +kernel) rfl
theorem wd_345 : (Cond.methodLink "LentBounds" 184 ⟨"LentBounds$People", "tell", "(II)Z"⟩) ∈ wa_T := wa_in 345 (by decide +kernel) rfl
theorem wd_346 : (Cond.instanceMethod ⟨"LentBounds$People", "tell", "(II)Z"⟩) ∈ wa_T := wa_in 346 (by decide +kernel) rfl
theorem wd_347 : (Cond.selects "LentBounds$People" ⟨"LentBounds$People", "tell", "(II)Z"⟩ ⟨"LentBounds$People", "tell", "(II)Z"⟩) ∈ wa_T := wa_in 347 (by decide +kernel) rfl
theorem wd_348 : (Cond.code ⟨"LentBounds$People", "tell", "(II)Z"⟩ prog_3_method_4_code 4 (some .boolean)) ∈ wa_T := wa_in 348 (by decide +kernel) rfl
theorem wd_349 : (Cond.methodLink "LentBoundsLaw" 104 ⟨"LentBounds", "row", "(II)I"⟩) ∈ wa_T := wa_in 349 (by decide +kernel) rfl
theorem wd_350 : (Cond.instanceMethod ⟨"LentBounds", "row", "(II)I"⟩) ∈ wa_T := wa_in 350 (by decide +kernel) rfl
theorem wd_351 : (Cond.selects "LentBounds" ⟨"LentBounds", "row", "(II)I"⟩ ⟨"LentBounds", "row", "(II)I"⟩) ∈ wa_T := wa_in 351 (by decide +kernel) rfl
theorem wd_352 : (Cond.code ⟨"LentBounds", "row", "(II)I"⟩ prog_1_method_14_code 3 (some .int)) ∈ wa_T := wa_in 352 (by decide +kernel) rfl
theorem wd_353 : (Cond.methodLink "LentBoundsLaw" 115 ⟨"LentBounds", "person", "(II)I"⟩) ∈ wa_T := wa_in 353 (by decide +kernel) rfl
theorem wd_354 : (Cond.instanceMethod ⟨"LentBounds", "person", "(II)I"⟩) ∈ wa_T := wa_in 354 (by decide +kernel) rfl
theorem wd_355 : (Cond.selects "LentBounds" ⟨"LentBounds", "person", "(II)I"⟩ ⟨"LentBounds", "person", "(II)I"⟩) ∈ wa_T := wa_in 355 (by decide +kernel) rfl
theorem wd_356 : (Cond.code ⟨"LentBounds", "person", "(II)I"⟩ prog_1_method_17_code 3 (some .int)) ∈ wa_T := wa_in 356 (by decide +kernel) rfl
theorem wd_357 : (Cond.methodLink "LentBounds" 235 ⟨"java/lang/Integer", "bitCount", "(I)I"⟩) ∈ wa_T := wa_in 357 (by decide +kernel) rfl
theorem wd_358 : (Cond.static ⟨"java/lang/Integer", "bitCount", "(I)I"⟩) ∈ wa_T := wa_in 358 (by decide +kernel) rfl
theorem wd_359 : (Cond.code ⟨"java/lang/Integer", "bitCount", "(I)I"⟩ prog_13_method_49_code 1 (some .int)) ∈ wa_T := wa_in 359 (by decide +kernel) rfl
theorem wd_360 : (Cond.constant "java/lang/Integer" 265 1431655765) ∈ wa_T := wa_in 360 (by decide +kernel) rfl
theorem wd_361 : (Cond.constant "java/lang/Integer" 266 858993459) ∈ wa_T := wa_in 361 (by decide +kernel) rfl
theorem wd_362 : (Cond.constant "java/lang/Integer" 267 252645135) ∈ wa_T := wa_in 362 (by decide +kernel) rfl
theorem wd_363 : (Cond.methodLink "LentBoundsLaw" 119 ⟨"LentBounds", "total", "(I)I"⟩) ∈ wa_T := wa_in 363 (by decide +kernel) rfl
theorem wd_364 : (Cond.instanceMethod ⟨"LentBounds", "total", "(I)I"⟩) ∈ wa_T := wa_in 364 (by decide +kernel) rfl
theorem wd_365 : (Cond.selects "LentBounds" ⟨"LentBounds", "total", "(I)I"⟩ ⟨"LentBounds", "total", "(I)I"⟩) ∈ wa_T := wa_in 365 (by decide +kernel) rfl
theorem wd_366 : (Cond.code ⟨"LentBounds", "total", "(I)I"⟩ prog_1_method_18_code 2 (some .int)) ∈ wa_T := wa_in 366 (by decide +kernel) rfl
theorem wd_367 : (Cond.methodLink "LentBoundsLaw" 47 ⟨"LentBoundsLaw", "bound", "(LLentBounds;JJJ[J)I"⟩) ∈ wa_T := wa_in 367 (by decide +kernel) rfl
theorem wd_368 : (Cond.static ⟨"LentBoundsLaw", "bound", "(LLentBounds;JJJ[J)I"⟩) ∈ wa_T := wa_in 368 (by decide +kernel) rfl
theorem wd_370 : (Cond.classLink "LentBoundsLaw" 13 "java/lang/IllegalArgumentException") ∈ wa_T := wa_in 370 (by decide +kernel) rfl
theorem wd_371 : (Cond.classLink "LentBoundsLaw" 15 "java/lang/ArithmeticException") ∈ wa_T := wa_in 371 (by decide +kernel) rfl
theorem wd_372 : (Cond.classLink "LentBoundsLaw" 17 "java/lang/IllegalStateException") ∈ wa_T := wa_in 372 (by decide +kernel) rfl
theorem wd_373 : (Cond.methodLink "LentBoundsLaw" 7 ⟨"LentBounds", "bound", "(JJJ)I"⟩) ∈ wa_T := wa_in 373 (by decide +kernel) rfl
theorem wd_374 : (Cond.instanceMethod ⟨"LentBounds", "bound", "(JJJ)I"⟩) ∈ wa_T := wa_in 374 (by decide +kernel) rfl
theorem wd_375 : (Cond.selects "LentBounds" ⟨"LentBounds", "bound", "(JJJ)I"⟩ ⟨"LentBounds", "bound", "(JJJ)I"⟩) ∈ wa_T := wa_in 375 (by decide +kernel) rfl
theorem wd_376 : (Cond.code ⟨"LentBounds", "bound", "(JJJ)I"⟩ prog_1_method_3_code 8 (some .int)) ∈ wa_T := wa_in 376 (by decide +kernel) rfl
theorem wd_377 : (Cond.methodLink "LentBounds" 54 ⟨"LentBounds", "isInOrder", "(JJJ)Z"⟩) ∈ wa_T := wa_in 377 (by decide +kernel) rfl
theorem wd_378 : (Cond.static ⟨"LentBounds", "isInOrder", "(JJJ)Z"⟩) ∈ wa_T := wa_in 378 (by decide +kernel) rfl
theorem wd_379 : (Cond.code ⟨"LentBounds", "isInOrder", "(JJJ)Z"⟩ prog_1_method_19_code 6 (some .boolean)) ∈ wa_T := wa_in 379 (by decide +kernel) rfl
theorem wd_380 : (Cond.methodLink "LentBounds" 242 ⟨"LentBounds", "isRoom", "(J)Z"⟩) ∈ wa_T := wa_in 380 (by decide +kernel) rfl
theorem wd_381 : (Cond.static ⟨"LentBounds", "isRoom", "(J)Z"⟩) ∈ wa_T := wa_in 381 (by decide +kernel) rfl
theorem wd_382 : (Cond.code ⟨"LentBounds", "isRoom", "(J)Z"⟩ prog_1_method_20_code 2 (some .boolean)) ∈ wa_T := wa_in 382 (by decide +kernel) rfl
theorem wd_383 : (Cond.classLink "LentBounds" 58 "java/lang/IllegalArgumentException") ∈ wa_T := wa_in 383 (by decide +kernel) rfl
theorem wd_384 : (Cond.instantiable "java/lang/IllegalArgumentException" 6) ∈ wa_T := wa_in 384 (by decide +kernel) rfl
theorem wd_392 : (Cond.selects "java/lang/IllegalArgumentException" ⟨"java/lang/Throwable", "fillInStackTrace", "(I)Ljava/lang/Throwable;"⟩ ⟨"java/lang/Throwable", "fillInStackTrace", "(I)Ljava/lang/Throwable;"⟩) ∈ wa_T := wa_in 392 (by decide +kernel) rfl
theorem wd_393 : (Cond.selects "java/lang/IllegalArgumentException" ⟨"java/lang/Throwable", "fillInStackTrace", "()Ljava/lang/Throwable;"⟩ ⟨"java/lang/Throwable", "fillInStackTrace", "()Ljava/lang/Throwable;"⟩) ∈ wa_T := wa_in 393 (by decide +kernel) rfl
theorem wd_404 : (Cond.fieldLink "java/lang/Throwable" 198 "java/lang/Throwable" "backtrace" "Ljava/lang/Object;") ∈ wa_T := wa_in 404 (by decide +kernel) rfl
theorem wd_406 : (Cond.instanceMethod ⟨"java/lang/Throwable", "<init>", "()V"⟩) ∈ wa_T := wa_in 406 (by decide +kernel) rfl
theorem wd_407 : (Cond.code ⟨"java/lang/Throwable", "<init>", "()V"⟩ prog_17_method_1_code 1 none) ∈ wa_T := wa_in 407 (by decide +kernel) rfl
theorem wd_408 : (Cond.methodLink "java/lang/Throwable" 1 ⟨"java/lang/Object", "<init>", "()V"⟩) ∈ wa_T := wa_in 408 (by decide +kernel) rfl
theorem wd_409 : (Cond.fieldLink "java/lang/Throwable" 13 "java/lang/Throwable" "UNASSIGNED_STACK" "[Ljava/lang/StackTraceElement;") ∈ wa_T := wa_in 409 (by decide +kernel) rfl
theorem wd_411 : (Cond.fieldLink "java/lang/Throwable" 20 "java/lang/Throwable" "SUPPRESSED_SENTINEL" "Ljava/util/List;") ∈ wa_T := wa_in 411 (by decide +kernel) rfl
theorem wd_413 : (Cond.methodLink "java/lang/Throwable" 27 ⟨"java/lang/Throwable", "fillInStackTrace", "()Ljava/lang/Throwable;"⟩) ∈ wa_T := wa_in 413 (by decide +kernel) rfl
theorem wd_414 : (Cond.instanceMethod ⟨"java/lang/Throwable", "fillInStackTrace", "()Ljava/lang/Throwable;"⟩) ∈ wa_T := wa_in 414 (by decide +kernel) rfl
theorem wd_416 : (Cond.selects "java/lang/ArithmeticException" ⟨"java/lang/Throwable", "fillInStackTrace", "()Ljava/lang/Throwable;"⟩ ⟨"java/lang/Throwable", "fillInStackTrace", "()Ljava/lang/Throwable;"⟩) ∈ wa_T := wa_in 416 (by decide +kernel) rfl
theorem wd_417 : (Cond.selects "java/lang/IllegalStateException" ⟨"java/lang/Throwable", "fillInStackTrace", "()Ljava/lang/Throwable;"⟩ ⟨"java/lang/Throwable", "fillInStackTrace", "()Ljava/lang/Throwable;"⟩) ∈ wa_T := wa_in 417 (by decide +kernel) rfl
theorem wd_418 : (Cond.selects "java/util/NoSuchElementException" ⟨"java/lang/Throwable", "fillInStackTrace", "()Ljava/lang/Throwable;"⟩ ⟨"java/lang/Throwable", "fillInStackTrace", "()Ljava/lang/Throwable;"⟩) ∈ wa_T := wa_in 418 (by decide +kernel) rfl
theorem wd_420 : (Cond.methodLink "java/lang/Throwable" 202 ⟨"java/lang/Throwable", "fillInStackTrace", "(I)Ljava/lang/Throwable;"⟩) ∈ wa_T := wa_in 420 (by decide +kernel) rfl
theorem wd_422 : (Cond.instanceMethod ⟨"java/lang/Throwable", "fillInStackTrace", "(I)Ljava/lang/Throwable;"⟩) ∈ wa_T := wa_in 422 (by decide +kernel) rfl
theorem wd_423 : (Cond.instantiable "java/lang/Throwable" 6) ∈ wa_T := wa_in 423 (by decide +kernel) rfl
theorem wd_426 : (Cond.methodLink "LentBounds" 62 ⟨"java/lang/IllegalArgumentException", "<init>", "(Ljava/lang/String;)V"⟩) ∈ wa_T := wa_in 426 (by decide +kernel) rfl
theorem wd_427 : (Cond.instanceMethod ⟨"java/lang/IllegalArgumentException", "<init>", "(Ljava/lang/String;)V"⟩) ∈ wa_T := wa_in 427 (by decide +kernel) rfl
theorem wd_428 : (Cond.code ⟨"java/lang/IllegalArgumentException", "<init>", "(Ljava/lang/String;)V"⟩ prog_11_method_2_code 2 none) ∈ wa_T := wa_in 428 (by decide +kernel) rfl
theorem wd_429 : (Cond.methodLink "java/lang/IllegalArgumentException" 7 ⟨"java/lang/RuntimeException", "<init>", "(Ljava/lang/String;)V"⟩) ∈ wa_T := wa_in 429 (by decide +kernel) rfl
theorem wd_430 : (Cond.instanceMethod ⟨"java/lang/RuntimeException", "<init>", "(Ljava/lang/String;)V"⟩) ∈ wa_T := wa_in 430 (by decide +kernel) rfl
theorem wd_431 : (Cond.code ⟨"java/lang/RuntimeException", "<init>", "(Ljava/lang/String;)V"⟩ prog_15_method_2_code 2 none) ∈ wa_T := wa_in 431 (by decide +kernel) rfl
theorem wd_432 : (Cond.methodLink "java/lang/RuntimeException" 7 ⟨"java/lang/Exception", "<init>", "(Ljava/lang/String;)V"⟩) ∈ wa_T := wa_in 432 (by decide +kernel) rfl
theorem wd_433 : (Cond.instanceMethod ⟨"java/lang/Exception", "<init>", "(Ljava/lang/String;)V"⟩) ∈ wa_T := wa_in 433 (by decide +kernel) rfl
theorem wd_434 : (Cond.code ⟨"java/lang/Exception", "<init>", "(Ljava/lang/String;)V"⟩ prog_10_method_2_code 2 none) ∈ wa_T := wa_in 434 (by decide +kernel) rfl
theorem wd_435 : (Cond.methodLink "java/lang/Exception" 7 ⟨"java/lang/Throwable", "<init>", "(Ljava/lang/String;)V"⟩) ∈ wa_T := wa_in 435 (by decide +kernel) rfl
theorem wd_436 : (Cond.instanceMethod ⟨"java/lang/Throwable", "<init>", "(Ljava/lang/String;)V"⟩) ∈ wa_T := wa_in 436 (by decide +kernel) rfl
theorem wd_437 : (Cond.code ⟨"java/lang/Throwable", "<init>", "(Ljava/lang/String;)V"⟩ prog_17_method_2_code 2 none) ∈ wa_T := wa_in 437 (by decide +kernel) rfl
theorem wd_439 : (Cond.fieldLink "java/lang/Throwable" 31 "java/lang/Throwable" "detailMessage" "Ljava/lang/String;") ∈ wa_T := wa_in 439 (by decide +kernel) rfl
theorem wd_440 : (Cond.fieldLink "java/lang/Throwable" 7 "java/lang/Throwable" "cause" "Ljava/lang/Throwable;") ∈ wa_T := wa_in 440 (by decide +kernel) rfl
theorem wd_441 : (Cond.fieldLink "java/lang/Throwable" 17 "java/lang/Throwable" "stackTrace" "[Ljava/lang/StackTraceElement;") ∈ wa_T := wa_in 441 (by decide +kernel) rfl
theorem wd_442 : (Cond.fieldLink "java/lang/Throwable" 24 "java/lang/Throwable" "suppressedExceptions" "Ljava/util/List;") ∈ wa_T := wa_in 442 (by decide +kernel) rfl
theorem wd_451 : (Cond.arrayClass .byte) ∈ wa_T := wa_in 451 (by decide +kernel) rfl
theorem wd_452 : (Cond.methodLink "LentBounds" 65 ⟨"LentBounds", "useOwnWeights", "()V"⟩) ∈ wa_T := wa_in 452 (by decide +kernel) rfl
theorem wd_454 : (Cond.instanceMethod ⟨"LentBounds", "useOwnWeights", "()V"⟩) ∈ wa_T := wa_in 454 (by decide +kernel) rfl
theorem wd_455 : (Cond.code ⟨"LentBounds", "useOwnWeights", "()V"⟩ prog_1_method_28_code 2 none) ∈ wa_T := wa_in 455 (by decide +kernel) rfl
theorem wd_456 : (Cond.methodLink "LentBounds" 68 ⟨"LentBounds$Splitter", "allWeights", "()J"⟩) ∈ wa_T := wa_in 456 (by decide +kernel) rfl
theorem wd_457 : (Cond.classLink "LentBounds" 72 "java/lang/ArithmeticException") ∈ wa_T := wa_in 457 (by decide +kernel) rfl
theorem wd_458 : (Cond.instantiable "java/lang/ArithmeticException" 6) ∈ wa_T := wa_in 458 (by decide +kernel) rfl
theorem wd_460 : (Cond.selects "java/lang/ArithmeticException" ⟨"java/lang/Throwable", "fillInStackTrace", "(I)Ljava/lang/Throwable;"⟩ ⟨"java/lang/Throwable", "fillInStackTrace", "(I)Ljava/lang/Throwable;"⟩) ∈ wa_T := wa_in 460 (by decide +kernel) rfl
theorem wd_467 : (Cond.methodLink "LentBounds" 76 ⟨"java/lang/ArithmeticException", "<init>", "(Ljava/lang/String;)V"⟩) ∈ wa_T := wa_in 467 (by decide +kernel) rfl
theorem wd_468 : (Cond.instanceMethod ⟨"java/lang/ArithmeticException", "<init>", "(Ljava/lang/String;)V"⟩) ∈ wa_T := wa_in 468 (by decide +kernel) rfl
theorem wd_469 : (Cond.code ⟨"java/lang/ArithmeticException", "<init>", "(Ljava/lang/String;)V"⟩ prog_9_method_2_code 2 none) ∈ wa_T := wa_in 469 (by decide +kernel) rfl
theorem wd_470 : (Cond.methodLink "java/lang/ArithmeticException" 7 ⟨"java/lang/RuntimeException", "<init>", "(Ljava/lang/String;)V"⟩) ∈ wa_T := wa_in 470 (by decide +kernel) rfl
theorem wd_473 : (Cond.classLink "LentBounds" 81 "java/lang/IllegalStateException") ∈ wa_T := wa_in 473 (by decide +kernel) rfl
theorem wd_474 : (Cond.instantiable "java/lang/IllegalStateException" 6) ∈ wa_T := wa_in 474 (by decide +kernel) rfl
theorem wd_476 : (Cond.selects "java/lang/IllegalStateException" ⟨"java/lang/Throwable", "fillInStackTrace", "(I)Ljava/lang/Throwable;"⟩ ⟨"java/lang/Throwable", "fillInStackTrace", "(I)Ljava/lang/Throwable;"⟩) ∈ wa_T := wa_in 476 (by decide +kernel) rfl
theorem wd_483 : (Cond.methodLink "LentBounds" 85 ⟨"java/lang/IllegalStateException", "<init>", "(Ljava/lang/String;)V"⟩) ∈ wa_T := wa_in 483 (by decide +kernel) rfl
theorem wd_484 : (Cond.instanceMethod ⟨"java/lang/IllegalStateException", "<init>", "(Ljava/lang/String;)V"⟩) ∈ wa_T := wa_in 484 (by decide +kernel) rfl
theorem wd_485 : (Cond.code ⟨"java/lang/IllegalStateException", "<init>", "(Ljava/lang/String;)V"⟩ prog_12_method_2_code 2 none) ∈ wa_T := wa_in 485 (by decide +kernel) rfl
theorem wd_486 : (Cond.methodLink "java/lang/IllegalStateException" 7 ⟨"java/lang/RuntimeException", "<init>", "(Ljava/lang/String;)V"⟩) ∈ wa_T := wa_in 486 (by decide +kernel) rfl
theorem wd_489 : (Cond.methodLink "LentBounds" 86 ⟨"LentBounds$Bounds", "open", "(JJJ)I"⟩) ∈ wa_T := wa_in 489 (by decide +kernel) rfl
theorem wd_490 : (Cond.instanceMethod ⟨"LentBounds$Bounds", "open", "(JJJ)I"⟩) ∈ wa_T := wa_in 490 (by decide +kernel) rfl
theorem wd_491 : (Cond.selects "LentBounds$Bounds" ⟨"LentBounds$Bounds", "open", "(JJJ)I"⟩ ⟨"LentBounds$Bounds", "open", "(JJJ)I"⟩) ∈ wa_T := wa_in 491 (by decide +kernel) rfl
theorem wd_492 : (Cond.code ⟨"LentBounds$Bounds", "open", "(JJJ)I"⟩ prog_2_method_3_code 7 (some .int)) ∈ wa_T := wa_in 492 (by decide +kernel) rfl
theorem wd_493 : (Cond.methodLink "LentBounds" 97 ⟨"LentBounds$Bounds", "setShares", "(II[J)V"⟩) ∈ wa_T := wa_in 493 (by decide +kernel) rfl
theorem wd_494 : (Cond.instanceMethod ⟨"LentBounds$Bounds", "setShares", "(II[J)V"⟩) ∈ wa_T := wa_in 494 (by decide +kernel) rfl
theorem wd_495 : (Cond.selects "LentBounds$Bounds" ⟨"LentBounds$Bounds", "setShares", "(II[J)V"⟩ ⟨"LentBounds$Bounds", "setShares", "(II[J)V"⟩) ∈ wa_T := wa_in 495 (by decide +kernel) rfl
theorem wd_496 : (Cond.code ⟨"LentBounds$Bounds", "setShares", "(II[J)V"⟩ prog_2_method_4_code 5 none) ∈ wa_T := wa_in 496 (by decide +kernel) rfl
theorem wd_497 : (Cond.methodLink "LentBoundsLaw" 96 ⟨"LentBoundsLaw", "share", "(LLentBounds;III[J)I"⟩) ∈ wa_T := wa_in 497 (by decide +kernel) rfl
theorem wd_498 : (Cond.static ⟨"LentBoundsLaw", "share", "(LLentBounds;III[J)I"⟩) ∈ wa_T := wa_in 498 (by decide +kernel) rfl
theorem wd_500 : (Cond.classLink "LentBoundsLaw" 23 "java/util/NoSuchElementException") ∈ wa_T := wa_in 500 (by decide +kernel) rfl
theorem wd_501 : (Cond.methodLink "LentBoundsLaw" 19 ⟨"LentBounds", "share", "(III)J"⟩) ∈ wa_T := wa_in 501 (by decide +kernel) rfl
theorem wd_502 : (Cond.instanceMethod ⟨"LentBounds", "share", "(III)J"⟩) ∈ wa_T := wa_in 502 (by decide +kernel) rfl
theorem wd_503 : (Cond.selects "LentBounds" ⟨"LentBounds", "share", "(III)J"⟩ ⟨"LentBounds", "share", "(III)J"⟩) ∈ wa_T := wa_in 503 (by decide +kernel) rfl
theorem wd_504 : (Cond.code ⟨"LentBounds", "share", "(III)J"⟩ prog_1_method_12_code 4 (some .long)) ∈ wa_T := wa_in 504 (by decide +kernel) rfl
theorem wd_505 : (Cond.classLink "LentBounds" 191 "java/util/NoSuchElementException") ∈ wa_T := wa_in 505 (by decide +kernel) rfl
theorem wd_506 : (Cond.instantiable "java/util/NoSuchElementException" 6) ∈ wa_T := wa_in 506 (by decide +kernel) rfl
theorem wd_508 : (Cond.selects "java/util/NoSuchElementException" ⟨"java/lang/Throwable", "fillInStackTrace", "(I)Ljava/lang/Throwable;"⟩ ⟨"java/lang/Throwable", "fillInStackTrace", "(I)Ljava/lang/Throwable;"⟩) ∈ wa_T := wa_in 508 (by decide +kernel) rfl
theorem wd_515 : (Cond.methodLink "LentBounds" 195 ⟨"java/util/NoSuchElementException", "<init>", "(Ljava/lang/String;)V"⟩) ∈ wa_T := wa_in 515 (by decide +kernel) rfl
theorem wd_516 : (Cond.instanceMethod ⟨"java/util/NoSuchElementException", "<init>", "(Ljava/lang/String;)V"⟩) ∈ wa_T := wa_in 516 (by decide +kernel) rfl
theorem wd_517 : (Cond.code ⟨"java/util/NoSuchElementException", "<init>", "(Ljava/lang/String;)V"⟩ prog_19_method_4_code 2 none) ∈ wa_T := wa_in 517 (by decide +kernel) rfl
theorem wd_518 : (Cond.methodLink "java/util/NoSuchElementException" 13 ⟨"java/lang/RuntimeException", "<init>", "(Ljava/lang/String;)V"⟩) ∈ wa_T := wa_in 518 (by decide +kernel) rfl
theorem wd_521 : (Cond.methodLink "LentBoundsLaw" 100 ⟨"LentBoundsLaw", "sum", "(LLentBounds;II[J)I"⟩) ∈ wa_T := wa_in 521 (by decide +kernel) rfl
theorem wd_522 : (Cond.static ⟨"LentBoundsLaw", "sum", "(LLentBounds;II[J)I"⟩) ∈ wa_T := wa_in 522 (by decide +kernel) rfl
theorem wd_524 : (Cond.methodLink "LentBoundsLaw" 25 ⟨"LentBounds", "sum", "(II)J"⟩) ∈ wa_T := wa_in 524 (by decide +kernel) rfl
theorem wd_525 : (Cond.instanceMethod ⟨"LentBounds", "sum", "(II)J"⟩) ∈ wa_T := wa_in 525 (by decide +kernel) rfl
theorem wd_526 : (Cond.selects "LentBounds" ⟨"LentBounds", "sum", "(II)J"⟩ ⟨"LentBounds", "sum", "(II)J"⟩) ∈ wa_T := wa_in 526 (by decide +kernel) rfl
theorem wd_527 : (Cond.code ⟨"LentBounds", "sum", "(II)J"⟩ prog_1_method_13_code 3 (some .long)) ∈ wa_T := wa_in 527 (by decide +kernel) rfl
theorem wd_529 : (Cond.methodLink "LentBounds" 207 ⟨"LentBounds", "sharesOfThose", "(IIZ)J"⟩) ∈ wa_T := wa_in 529 (by decide +kernel) rfl
theorem wd_531 : (Cond.instanceMethod ⟨"LentBounds", "sharesOfThose", "(IIZ)J"⟩) ∈ wa_T := wa_in 531 (by decide +kernel) rfl
theorem wd_532 : (Cond.code ⟨"LentBounds", "sharesOfThose", "(IIZ)J"⟩ prog_1_method_30_code 7 (some .long)) ∈ wa_T := wa_in 532 (by decide +kernel) rfl
theorem wd_533 : (Cond.methodLink "LentBounds" 211 ⟨"LentBounds", "heldByRows", "(IIZ)J"⟩) ∈ wa_T := wa_in 533 (by decide +kernel) rfl
theorem wd_535 : (Cond.instanceMethod ⟨"LentBounds", "heldByRows", "(IIZ)J"⟩) ∈ wa_T := wa_in 535 (by decide +kernel) rfl
theorem wd_536 : (Cond.code ⟨"LentBounds", "heldByRows", "(IIZ)J"⟩ prog_1_method_31_code 7 (some .long)) ∈ wa_T := wa_in 536 (by decide +kernel) rfl
theorem wd_537 : (Cond.methodLink "LentBounds" 270 ⟨"LentBounds$Rows", "isOf", "(III)Z"⟩) ∈ wa_T := wa_in 537 (by decide +kernel) rfl
theorem wd_538 : (Cond.methodLink "LentBounds" 274 ⟨"LentBounds", "isStuck", "(I)Z"⟩) ∈ wa_T := wa_in 538 (by decide +kernel) rfl
theorem wd_540 : (Cond.instanceMethod ⟨"LentBounds", "isStuck", "(I)Z"⟩) ∈ wa_T := wa_in 540 (by decide +kernel) rfl
theorem wd_541 : (Cond.code ⟨"LentBounds", "isStuck", "(I)Z"⟩ prog_1_method_32_code 2 (some .boolean)) ∈ wa_T := wa_in 541 (by decide +kernel) rfl
theorem wd_543 : (Cond.methodLink "LentBoundsLaw" 108 ⟨"LentBoundsLaw", "lent", "(LLentBounds;I[J)I"⟩) ∈ wa_T := wa_in 543 (by decide +kernel) rfl
theorem wd_544 : (Cond.static ⟨"LentBoundsLaw", "lent", "(LLentBounds;I[J)I"⟩) ∈ wa_T := wa_in 544 (by decide +kernel) rfl
theorem wd_546 : (Cond.methodLink "LentBoundsLaw" 29 ⟨"LentBounds", "lent", "(I)J"⟩) ∈ wa_T := wa_in 546 (by decide +kernel) rfl
theorem wd_547 : (Cond.instanceMethod ⟨"LentBounds", "lent", "(I)J"⟩) ∈ wa_T := wa_in 547 (by decide +kernel) rfl
theorem wd_548 : (Cond.selects "LentBounds" ⟨"LentBounds", "lent", "(I)J"⟩ ⟨"LentBounds", "lent", "(I)J"⟩) ∈ wa_T := wa_in 548 (by decide +kernel) rfl
theorem wd_549 : (Cond.code ⟨"LentBounds", "lent", "(I)J"⟩ prog_1_method_15_code 2 (some .long)) ∈ wa_T := wa_in 549 (by decide +kernel) rfl
theorem wd_551 : (Cond.methodLink "LentBoundsLaw" 112 ⟨"LentBoundsLaw", "waits", "(LLentBounds;II[J)I"⟩) ∈ wa_T := wa_in 551 (by decide +kernel) rfl
theorem wd_552 : (Cond.static ⟨"LentBoundsLaw", "waits", "(LLentBounds;II[J)I"⟩) ∈ wa_T := wa_in 552 (by decide +kernel) rfl
theorem wd_554 : (Cond.methodLink "LentBoundsLaw" 33 ⟨"LentBounds", "waits", "(II)J"⟩) ∈ wa_T := wa_in 554 (by decide +kernel) rfl
theorem wd_555 : (Cond.instanceMethod ⟨"LentBounds", "waits", "(II)J"⟩) ∈ wa_T := wa_in 555 (by decide +kernel) rfl
theorem wd_556 : (Cond.selects "LentBounds" ⟨"LentBounds", "waits", "(II)J"⟩ ⟨"LentBounds", "waits", "(II)J"⟩) ∈ wa_T := wa_in 556 (by decide +kernel) rfl
theorem wd_557 : (Cond.code ⟨"LentBounds", "waits", "(II)J"⟩ prog_1_method_16_code 3 (some .long)) ∈ wa_T := wa_in 557 (by decide +kernel) rfl
theorem wd_559 : (Cond.classLink "LentBoundsLaw" 37 "LentBoundsModel") ∈ wa_T := wa_in 559 (by decide +kernel) rfl
theorem wd_560 : (Cond.instantiable "LentBoundsModel" 27) ∈ wa_T := wa_in 560 (by decide +kernel) rfl
theorem wd_561 : (Cond.methodLink "LentBoundsLaw" 39 ⟨"LentBoundsModel", "<init>", "()V"⟩) ∈ wa_T := wa_in 561 (by decide +kernel) rfl
theorem wd_562 : (Cond.instanceMethod ⟨"LentBoundsModel", "<init>", "()V"⟩) ∈ wa_T := wa_in 562 (by decide +kernel) rfl
theorem wd_563 : (Cond.code ⟨"LentBoundsModel", "<init>", "()V"⟩ prog_8_method_1_code 1 none) ∈ wa_T := wa_in 563 (by decide +kernel) rfl
theorem wd_564 : (Cond.methodLink "LentBoundsModel" 1 ⟨"java/lang/Object", "<init>", "()V"⟩) ∈ wa_T := wa_in 564 (by decide +kernel) rfl
theorem wd_565 : (Cond.fieldLink "LentBoundsModel" 78 "LentBoundsModel" "thrown" "I") ∈ wa_T := wa_in 565 (by decide +kernel) rfl
theorem wd_566 : (Cond.fieldLink "LentBoundsModel" 88 "LentBoundsModel" "bounds" "I") ∈ wa_T := wa_in 566 (by decide +kernel) rfl
theorem wd_567 : (Cond.fieldLink "LentBoundsModel" 7 "LentBoundsModel" "floor" "[J") ∈ wa_T := wa_in 567 (by decide +kernel) rfl
theorem wd_568 : (Cond.fieldLink "LentBoundsModel" 13 "LentBoundsModel" "value" "[J") ∈ wa_T := wa_in 568 (by decide +kernel) rfl
theorem wd_569 : (Cond.fieldLink "LentBoundsModel" 16 "LentBoundsModel" "ceiling" "[J") ∈ wa_T := wa_in 569 (by decide +kernel) rfl
theorem wd_570 : (Cond.fieldLink "LentBoundsModel" 19 "LentBoundsModel" "share" "[J") ∈ wa_T := wa_in 570 (by decide +kernel) rfl
theorem wd_571 : (Cond.fieldLink "LentBoundsModel" 22 "LentBoundsModel" "weight" "[J") ∈ wa_T := wa_in 571 (by decide +kernel) rfl
theorem wd_572 : (Cond.fieldLink "LentBoundsModel" 25 "LentBoundsModel" "how" "[I") ∈ wa_T := wa_in 572 (by decide +kernel) rfl
theorem wd_573 : (Cond.fieldLink "LentBoundsModel" 29 "LentBoundsModel" "patient" "[Z") ∈ wa_T := wa_in 573 (by decide +kernel) rfl
theorem wd_574 : (Cond.fieldLink "LentBoundsModel" 33 "LentBoundsModel" "told" "[Z") ∈ wa_T := wa_in 574 (by decide +kernel) rfl
theorem wd_575 : (Cond.fieldLink "LentBoundsModel" 36 "LentBoundsModel" "waits" "[I") ∈ wa_T := wa_in 575 (by decide +kernel) rfl
theorem wd_576 : (Cond.fieldLink "LentBoundsModel" 39 "LentBoundsModel" "waitBound" "[I") ∈ wa_T := wa_in 576 (by decide +kernel) rfl
theorem wd_577 : (Cond.fieldLink "LentBoundsModel" 42 "LentBoundsModel" "waitFor" "[J") ∈ wa_T := wa_in 577 (by decide +kernel) rfl
theorem wd_578 : (Cond.fieldLink "LentBoundsModel" 130 "LentBoundsModel" "rows" "I") ∈ wa_T := wa_in 578 (by decide +kernel) rfl
theorem wd_579 : (Cond.fieldLink "LentBoundsModel" 45 "LentBoundsModel" "rowBound" "[I") ∈ wa_T := wa_in 579 (by decide +kernel) rfl
theorem wd_580 : (Cond.fieldLink "LentBoundsModel" 48 "LentBoundsModel" "rowSide" "[I") ∈ wa_T := wa_in 580 (by decide +kernel) rfl
theorem wd_581 : (Cond.fieldLink "LentBoundsModel" 51 "LentBoundsModel" "from" "[I") ∈ wa_T := wa_in 581 (by decide +kernel) rfl
theorem wd_582 : (Cond.fieldLink "LentBoundsModel" 54 "LentBoundsModel" "to" "[I") ∈ wa_T := wa_in 582 (by decide +kernel) rfl
theorem wd_583 : (Cond.fieldLink "LentBoundsModel" 57 "LentBoundsModel" "much" "[J") ∈ wa_T := wa_in 583 (by decide +kernel) rfl
theorem wd_584 : (Cond.fieldLink "LentBoundsModel" 60 "LentBoundsModel" "state" "[I") ∈ wa_T := wa_in 584 (by decide +kernel) rfl
theorem wd_585 : (Cond.fieldLink "LentBoundsModel" 63 "LentBoundsModel" "times" "[I") ∈ wa_T := wa_in 585 (by decide +kernel) rfl
theorem wd_586 : (Cond.fieldLink "LentBoundsModel" 66 "LentBoundsModel" "isBack" "[Z") ∈ wa_T := wa_in 586 (by decide +kernel) rfl
theorem wd_587 : (Cond.fieldLink "LentBoundsModel" 115 "LentBoundsModel" "done" "I") ∈ wa_T := wa_in 587 (by decide +kernel) rfl
theorem wd_588 : (Cond.fieldLink "LentBoundsModel" 127 "LentBoundsModel" "refused" "I") ∈ wa_T := wa_in 588 (by decide +kernel) rfl
theorem wd_589 : (Cond.fieldLink "LentBoundsModel" 69 "LentBoundsModel" "part" "[J") ∈ wa_T := wa_in 589 (by decide +kernel) rfl
theorem wd_590 : (Cond.fieldLink "LentBoundsModel" 72 "LentBoundsModel" "rest" "[J") ∈ wa_T := wa_in 590 (by decide +kernel) rfl
theorem wd_591 : (Cond.fieldLink "LentBoundsModel" 75 "LentBoundsModel" "more" "[Z") ∈ wa_T := wa_in 591 (by decide +kernel) rfl
theorem wd_647 : (Cond.methodLink "LentBoundsLaw" 53 ⟨"LentBoundsModel", "thrown", "()I"⟩) ∈ wa_T := wa_in 647 (by decide +kernel) rfl
theorem wd_648 : (Cond.instanceMethod ⟨"LentBoundsModel", "thrown", "()I"⟩) ∈ wa_T := wa_in 648 (by decide +kernel) rfl
theorem wd_649 : (Cond.selects "LentBoundsModel" ⟨"LentBoundsModel", "thrown", "()I"⟩ ⟨"LentBoundsModel", "thrown", "()I"⟩) ∈ wa_T := wa_in 649 (by decide +kernel) rfl
theorem wd_650 : (Cond.code ⟨"LentBoundsModel", "thrown", "()I"⟩ prog_8_method_2_code 1 (some .int)) ∈ wa_T := wa_in 650 (by decide +kernel) rfl
theorem wd_651 : (Cond.methodLink "LentBoundsLaw" 46 ⟨"LentBoundsModel", "weigh", "(IJ)Z"⟩) ∈ wa_T := wa_in 651 (by decide +kernel) rfl
theorem wd_652 : (Cond.instanceMethod ⟨"LentBoundsModel", "weigh", "(IJ)Z"⟩) ∈ wa_T := wa_in 652 (by decide +kernel) rfl
theorem wd_653 : (Cond.selects "LentBoundsModel" ⟨"LentBoundsModel", "weigh", "(IJ)Z"⟩ ⟨"LentBoundsModel", "weigh", "(IJ)Z"⟩) ∈ wa_T := wa_in 653 (by decide +kernel) rfl
theorem wd_654 : (Cond.code ⟨"LentBoundsModel", "weigh", "(IJ)Z"⟩ prog_8_method_9_code 4 (some .boolean)) ∈ wa_T := wa_in 654 (by decide +kernel) rfl
theorem wd_655 : (Cond.methodLink "LentBoundsModel" 91 ⟨"LentBoundsModel", "isWell", "(I)Z"⟩) ∈ wa_T := wa_in 655 (by decide +kernel) rfl
theorem wd_657 : (Cond.instanceMethod ⟨"LentBoundsModel", "isWell", "(I)Z"⟩) ∈ wa_T := wa_in 657 (by decide +kernel) rfl
theorem wd_658 : (Cond.code ⟨"LentBoundsModel", "isWell", "(I)Z"⟩ prog_8_method_6_code 2 (some .boolean)) ∈ wa_T := wa_in 658 (by decide +kernel) rfl
theorem wd_659 : (Cond.constantLong "LentBoundsModel" 82 5) ∈ wa_T := wa_in 659 (by decide +kernel) rfl
theorem wd_660 : (Cond.methodLink "LentBoundsModel" 84 ⟨"LentBoundsModel", "within", "(JJJ)Z"⟩) ∈ wa_T := wa_in 660 (by decide +kernel) rfl
theorem wd_661 : (Cond.static ⟨"LentBoundsModel", "within", "(JJJ)Z"⟩) ∈ wa_T := wa_in 661 (by decide +kernel) rfl
theorem wd_662 : (Cond.code ⟨"LentBoundsModel", "within", "(JJJ)Z"⟩ prog_8_method_4_code 6 (some .boolean)) ∈ wa_T := wa_in 662 (by decide +kernel) rfl
theorem wd_663 : (Cond.constantLong "LentBoundsModel" 95 1000000) ∈ wa_T := wa_in 663 (by decide +kernel) rfl
theorem wd_664 : (Cond.methodLink "LentBoundsLaw" 52 ⟨"LentBoundsModel", "bound", "(JJJ)I"⟩) ∈ wa_T := wa_in 664 (by decide +kernel) rfl
theorem wd_665 : (Cond.instanceMethod ⟨"LentBoundsModel", "bound", "(JJJ)I"⟩) ∈ wa_T := wa_in 665 (by decide +kernel) rfl
theorem wd_666 : (Cond.selects "LentBoundsModel" ⟨"LentBoundsModel", "bound", "(JJJ)I"⟩ ⟨"LentBoundsModel", "bound", "(JJJ)I"⟩) ∈ wa_T := wa_in 666 (by decide +kernel) rfl
theorem wd_667 : (Cond.code ⟨"LentBoundsModel", "bound", "(JJJ)I"⟩ prog_8_method_11_code 11 (some .int)) ∈ wa_T := wa_in 667 (by decide +kernel) rfl
theorem wd_668 : (Cond.methodLink "LentBoundsModel" 99 ⟨"LentBoundsModel", "isTooGreat", "(JJ)Z"⟩) ∈ wa_T := wa_in 668 (by decide +kernel) rfl
theorem wd_669 : (Cond.static ⟨"LentBoundsModel", "isTooGreat", "(JJ)Z"⟩) ∈ wa_T := wa_in 669 (by decide +kernel) rfl
theorem wd_670 : (Cond.code ⟨"LentBoundsModel", "isTooGreat", "(JJ)Z"⟩ prog_8_method_10_code 4 (some .boolean)) ∈ wa_T := wa_in 670 (by decide +kernel) rfl
theorem wd_671 : (Cond.constantLong "LentBoundsModel" 97 1000000000000) ∈ wa_T := wa_in 671 (by decide +kernel) rfl
theorem wd_672 : (Cond.methodLink "LentBoundsModel" 103 ⟨"LentBoundsModel", "raise", "(I)I"⟩) ∈ wa_T := wa_in 672 (by decide +kernel) rfl
theorem wd_674 : (Cond.instanceMethod ⟨"LentBoundsModel", "raise", "(I)I"⟩) ∈ wa_T := wa_in 674 (by decide +kernel) rfl
theorem wd_675 : (Cond.code ⟨"LentBoundsModel", "raise", "(I)I"⟩ prog_8_method_3_code 2 (some .int)) ∈ wa_T := wa_in 675 (by decide +kernel) rfl
theorem wd_676 : (Cond.methodLink "LentBoundsModel" 107 ⟨"LentBoundsModel", "split", "(JZ)V"⟩) ∈ wa_T := wa_in 676 (by decide +kernel) rfl
theorem wd_678 : (Cond.instanceMethod ⟨"LentBoundsModel", "split", "(JZ)V"⟩) ∈ wa_T := wa_in 678 (by decide +kernel) rfl
theorem wd_679 : (Cond.code ⟨"LentBoundsModel", "split", "(JZ)V"⟩ prog_8_method_8_code 11 none) ∈ wa_T := wa_in 679 (by decide +kernel) rfl
theorem wd_680 : (Cond.methodLink "LentBoundsModel" 111 ⟨"LentBoundsModel", "at", "(III)I"⟩) ∈ wa_T := wa_in 680 (by decide +kernel) rfl
theorem wd_681 : (Cond.static ⟨"LentBoundsModel", "at", "(III)I"⟩) ∈ wa_T := wa_in 681 (by decide +kernel) rfl
theorem wd_682 : (Cond.code ⟨"LentBoundsModel", "at", "(III)I"⟩ prog_8_method_5_code 3 (some .int)) ∈ wa_T := wa_in 682 (by decide +kernel) rfl
theorem wd_683 : (Cond.methodLink "LentBoundsLaw" 61 ⟨"LentBoundsModel", "patient", "(IZ)Z"⟩) ∈ wa_T := wa_in 683 (by decide +kernel) rfl
theorem wd_684 : (Cond.instanceMethod ⟨"LentBoundsModel", "patient", "(IZ)Z"⟩) ∈ wa_T := wa_in 684 (by decide +kernel) rfl
theorem wd_685 : (Cond.selects "LentBoundsModel" ⟨"LentBoundsModel", "patient", "(IZ)Z"⟩ ⟨"LentBoundsModel", "patient", "(IZ)Z"⟩) ∈ wa_T := wa_in 685 (by decide +kernel) rfl
theorem wd_686 : (Cond.code ⟨"LentBoundsModel", "patient", "(IZ)Z"⟩ prog_8_method_12_code 3 (some .boolean)) ∈ wa_T := wa_in 686 (by decide +kernel) rfl
theorem wd_687 : (Cond.methodLink "LentBoundsLaw" 66 ⟨"LentBoundsModel", "take", "(IIJ)I"⟩) ∈ wa_T := wa_in 687 (by decide +kernel) rfl
theorem wd_688 : (Cond.instanceMethod ⟨"LentBoundsModel", "take", "(IIJ)I"⟩) ∈ wa_T := wa_in 688 (by decide +kernel) rfl
theorem wd_689 : (Cond.selects "LentBoundsModel" ⟨"LentBoundsModel", "take", "(IIJ)I"⟩ ⟨"LentBoundsModel", "take", "(IIJ)I"⟩) ∈ wa_T := wa_in 689 (by decide +kernel) rfl
theorem wd_690 : (Cond.code ⟨"LentBoundsModel", "take", "(IIJ)I"⟩ prog_8_method_14_code 5 (some .int)) ∈ wa_T := wa_in 690 (by decide +kernel) rfl
theorem wd_691 : (Cond.methodLink "LentBoundsModel" 118 ⟨"LentBoundsModel", "isBound", "(I)Z"⟩) ∈ wa_T := wa_in 691 (by decide +kernel) rfl
theorem wd_693 : (Cond.instanceMethod ⟨"LentBoundsModel", "isBound", "(I)Z"⟩) ∈ wa_T := wa_in 693 (by decide +kernel) rfl
theorem wd_694 : (Cond.code ⟨"LentBoundsModel", "isBound", "(I)Z"⟩ prog_8_method_7_code 2 (some .boolean)) ∈ wa_T := wa_in 694 (by decide +kernel) rfl
theorem wd_695 : (Cond.constantLong "LentBoundsModel" 121 (-1000000000000)) ∈ wa_T := wa_in 695 (by decide +kernel) rfl
theorem wd_696 : (Cond.methodLink "LentBoundsModel" 123 ⟨"LentBoundsModel", "move", "(IIJ)Z"⟩) ∈ wa_T := wa_in 696 (by decide +kernel) rfl
theorem wd_698 : (Cond.instanceMethod ⟨"LentBoundsModel", "move", "(IIJ)Z"⟩) ∈ wa_T := wa_in 698 (by decide +kernel) rfl
theorem wd_699 : (Cond.code ⟨"LentBoundsModel", "move", "(IIJ)Z"⟩ prog_8_method_13_code 8 (some .boolean)) ∈ wa_T := wa_in 699 (by decide +kernel) rfl
theorem wd_700 : (Cond.methodLink "LentBoundsLaw" 71 ⟨"LentBoundsModel", "lend", "(IIIIJ)I"⟩) ∈ wa_T := wa_in 700 (by decide +kernel) rfl
theorem wd_701 : (Cond.instanceMethod ⟨"LentBoundsModel", "lend", "(IIIIJ)I"⟩) ∈ wa_T := wa_in 701 (by decide +kernel) rfl
theorem wd_702 : (Cond.selects "LentBoundsModel" ⟨"LentBoundsModel", "lend", "(IIIIJ)I"⟩ ⟨"LentBoundsModel", "lend", "(IIIIJ)I"⟩) ∈ wa_T := wa_in 702 (by decide +kernel) rfl
theorem wd_703 : (Cond.code ⟨"LentBoundsModel", "lend", "(IIIIJ)I"⟩ prog_8_method_17_code 7 (some .int)) ∈ wa_T := wa_in 703 (by decide +kernel) rfl
theorem wd_704 : (Cond.methodLink "LentBoundsModel" 133 ⟨"LentBoundsModel", "add", "(IIIIJ)I"⟩) ∈ wa_T := wa_in 704 (by decide +kernel) rfl
theorem wd_706 : (Cond.instanceMethod ⟨"LentBoundsModel", "add", "(IIIIJ)I"⟩) ∈ wa_T := wa_in 706 (by decide +kernel) rfl
theorem wd_707 : (Cond.code ⟨"LentBoundsModel", "add", "(IIIIJ)I"⟩ prog_8_method_16_code 7 (some .int)) ∈ wa_T := wa_in 707 (by decide +kernel) rfl
theorem wd_708 : (Cond.methodLink "LentBoundsLaw" 76 ⟨"LentBoundsModel", "ask", "(IIIJ)I"⟩) ∈ wa_T := wa_in 708 (by decide +kernel) rfl
theorem wd_709 : (Cond.instanceMethod ⟨"LentBoundsModel", "ask", "(IIIJ)I"⟩) ∈ wa_T := wa_in 709 (by decide +kernel) rfl
theorem wd_710 : (Cond.selects "LentBoundsModel" ⟨"LentBoundsModel", "ask", "(IIIJ)I"⟩ ⟨"LentBoundsModel", "ask", "(IIIJ)I"⟩) ∈ wa_T := wa_in 710 (by decide +kernel) rfl
theorem wd_711 : (Cond.code ⟨"LentBoundsModel", "ask", "(IIIJ)I"⟩ prog_8_method_18_code 9 (some .int)) ∈ wa_T := wa_in 711 (by decide +kernel) rfl
theorem wd_712 : (Cond.methodLink "LentBoundsLaw" 81 ⟨"LentBoundsModel", "deliver", "(I)I"⟩) ∈ wa_T := wa_in 712 (by decide +kernel) rfl
theorem wd_713 : (Cond.instanceMethod ⟨"LentBoundsModel", "deliver", "(I)I"⟩) ∈ wa_T := wa_in 713 (by decide +kernel) rfl
theorem wd_714 : (Cond.selects "LentBoundsModel" ⟨"LentBoundsModel", "deliver", "(I)I"⟩ ⟨"LentBoundsModel", "deliver", "(I)I"⟩) ∈ wa_T := wa_in 714 (by decide +kernel) rfl
theorem wd_715 : (Cond.code ⟨"LentBoundsModel", "deliver", "(I)I"⟩ prog_8_method_20_code 2 (some .int)) ∈ wa_T := wa_in 715 (by decide +kernel) rfl
theorem wd_716 : (Cond.methodLink "LentBoundsModel" 137 ⟨"LentBoundsModel", "isRow", "(I)Z"⟩) ∈ wa_T := wa_in 716 (by decide +kernel) rfl
theorem wd_718 : (Cond.instanceMethod ⟨"LentBoundsModel", "isRow", "(I)Z"⟩) ∈ wa_T := wa_in 718 (by decide +kernel) rfl
theorem wd_719 : (Cond.code ⟨"LentBoundsModel", "isRow", "(I)Z"⟩ prog_8_method_19_code 2 (some .boolean)) ∈ wa_T := wa_in 719 (by decide +kernel) rfl
theorem wd_720 : (Cond.methodLink "LentBoundsModel" 140 ⟨"LentBoundsModel", "came", "(I)V"⟩) ∈ wa_T := wa_in 720 (by decide +kernel) rfl
theorem wd_722 : (Cond.instanceMethod ⟨"LentBoundsModel", "came", "(I)V"⟩) ∈ wa_T := wa_in 722 (by decide +kernel) rfl
theorem wd_723 : (Cond.code ⟨"LentBoundsModel", "came", "(I)V"⟩ prog_8_method_15_code 3 none) ∈ wa_T := wa_in 723 (by decide +kernel) rfl
theorem wd_724 : (Cond.methodLink "LentBoundsLaw" 86 ⟨"LentBoundsModel", "lose", "(I)Z"⟩) ∈ wa_T := wa_in 724 (by decide +kernel) rfl
theorem wd_725 : (Cond.instanceMethod ⟨"LentBoundsModel", "lose", "(I)Z"⟩) ∈ wa_T := wa_in 725 (by decide +kernel) rfl
theorem wd_726 : (Cond.selects "LentBoundsModel" ⟨"LentBoundsModel", "lose", "(I)Z"⟩ ⟨"LentBoundsModel", "lose", "(I)Z"⟩) ∈ wa_T := wa_in 726 (by decide +kernel) rfl
theorem wd_727 : (Cond.code ⟨"LentBoundsModel", "lose", "(I)Z"⟩ prog_8_method_21_code 2 (some .boolean)) ∈ wa_T := wa_in 727 (by decide +kernel) rfl
theorem wd_728 : (Cond.methodLink "LentBoundsLaw" 90 ⟨"LentBoundsModel", "end", "(I)Z"⟩) ∈ wa_T := wa_in 728 (by decide +kernel) rfl
theorem wd_729 : (Cond.instanceMethod ⟨"LentBoundsModel", "end", "(I)Z"⟩) ∈ wa_T := wa_in 729 (by decide +kernel) rfl
theorem wd_730 : (Cond.selects "LentBoundsModel" ⟨"LentBoundsModel", "end", "(I)Z"⟩ ⟨"LentBoundsModel", "end", "(I)Z"⟩) ∈ wa_T := wa_in 730 (by decide +kernel) rfl
theorem wd_731 : (Cond.code ⟨"LentBoundsModel", "end", "(I)Z"⟩ prog_8_method_22_code 3 (some .boolean)) ∈ wa_T := wa_in 731 (by decide +kernel) rfl
theorem wd_732 : (Cond.methodLink "LentBoundsModel" 144 ⟨"LentBoundsModel", "isTold", "(I)Z"⟩) ∈ wa_T := wa_in 732 (by decide +kernel) rfl
theorem wd_734 : (Cond.instanceMethod ⟨"LentBoundsModel", "isTold", "(I)Z"⟩) ∈ wa_T := wa_in 734 (by decide +kernel) rfl
theorem wd_735 : (Cond.code ⟨"LentBoundsModel", "isTold", "(I)Z"⟩ prog_8_method_23_code 4 (some .boolean)) ∈ wa_T := wa_in 735 (by decide +kernel) rfl
theorem wd_736 : (Cond.methodLink "LentBoundsModel" 147 ⟨"LentBoundsModel", "recover", "(I)V"⟩) ∈ wa_T := wa_in 736 (by decide +kernel) rfl
theorem wd_738 : (Cond.instanceMethod ⟨"LentBoundsModel", "recover", "(I)V"⟩) ∈ wa_T := wa_in 738 (by decide +kernel) rfl
theorem wd_739 : (Cond.code ⟨"LentBoundsModel", "recover", "(I)V"⟩ prog_8_method_24_code 7 none) ∈ wa_T := wa_in 739 (by decide +kernel) rfl
theorem wd_740 : (Cond.methodLink "LentBoundsLaw" 95 ⟨"LentBoundsModel", "vouch", "(II)I"⟩) ∈ wa_T := wa_in 740 (by decide +kernel) rfl
theorem wd_741 : (Cond.instanceMethod ⟨"LentBoundsModel", "vouch", "(II)I"⟩) ∈ wa_T := wa_in 741 (by decide +kernel) rfl
theorem wd_742 : (Cond.selects "LentBoundsModel" ⟨"LentBoundsModel", "vouch", "(II)I"⟩ ⟨"LentBoundsModel", "vouch", "(II)I"⟩) ∈ wa_T := wa_in 742 (by decide +kernel) rfl
theorem wd_743 : (Cond.code ⟨"LentBoundsModel", "vouch", "(II)I"⟩ prog_8_method_25_code 3 (some .int)) ∈ wa_T := wa_in 743 (by decide +kernel) rfl
theorem wd_744 : (Cond.methodLink "LentBoundsLaw" 99 ⟨"LentBoundsModel", "share", "(III)J"⟩) ∈ wa_T := wa_in 744 (by decide +kernel) rfl
theorem wd_745 : (Cond.instanceMethod ⟨"LentBoundsModel", "share", "(III)J"⟩) ∈ wa_T := wa_in 745 (by decide +kernel) rfl
theorem wd_746 : (Cond.selects "LentBoundsModel" ⟨"LentBoundsModel", "share", "(III)J"⟩ ⟨"LentBoundsModel", "share", "(III)J"⟩) ∈ wa_T := wa_in 746 (by decide +kernel) rfl
theorem wd_747 : (Cond.code ⟨"LentBoundsModel", "share", "(III)J"⟩ prog_8_method_26_code 4 (some .long)) ∈ wa_T := wa_in 747 (by decide +kernel) rfl
theorem wd_748 : (Cond.methodLink "LentBoundsLaw" 103 ⟨"LentBoundsModel", "sum", "(II)J"⟩) ∈ wa_T := wa_in 748 (by decide +kernel) rfl
theorem wd_749 : (Cond.instanceMethod ⟨"LentBoundsModel", "sum", "(II)J"⟩) ∈ wa_T := wa_in 749 (by decide +kernel) rfl
theorem wd_750 : (Cond.selects "LentBoundsModel" ⟨"LentBoundsModel", "sum", "(II)J"⟩ ⟨"LentBoundsModel", "sum", "(II)J"⟩) ∈ wa_T := wa_in 750 (by decide +kernel) rfl
theorem wd_751 : (Cond.code ⟨"LentBoundsModel", "sum", "(II)J"⟩ prog_8_method_29_code 4 (some .long)) ∈ wa_T := wa_in 751 (by decide +kernel) rfl
theorem wd_752 : (Cond.constantLong "LentBoundsModel" 150 8) ∈ wa_T := wa_in 752 (by decide +kernel) rfl
theorem wd_753 : (Cond.methodLink "LentBoundsModel" 152 ⟨"LentBoundsModel", "shares", "(IIZ)J"⟩) ∈ wa_T := wa_in 753 (by decide +kernel) rfl
theorem wd_755 : (Cond.instanceMethod ⟨"LentBoundsModel", "shares", "(IIZ)J"⟩) ∈ wa_T := wa_in 755 (by decide +kernel) rfl
theorem wd_756 : (Cond.code ⟨"LentBoundsModel", "shares", "(IIZ)J"⟩ prog_8_method_27_code 7 (some .long)) ∈ wa_T := wa_in 756 (by decide +kernel) rfl
theorem wd_757 : (Cond.methodLink "LentBoundsModel" 156 ⟨"LentBoundsModel", "inRows", "(IIZ)J"⟩) ∈ wa_T := wa_in 757 (by decide +kernel) rfl
theorem wd_759 : (Cond.instanceMethod ⟨"LentBoundsModel", "inRows", "(IIZ)J"⟩) ∈ wa_T := wa_in 759 (by decide +kernel) rfl
theorem wd_760 : (Cond.code ⟨"LentBoundsModel", "inRows", "(IIZ)J"⟩ prog_8_method_28_code 8 (some .long)) ∈ wa_T := wa_in 760 (by decide +kernel) rfl
theorem wd_761 : (Cond.methodLink "LentBoundsLaw" 107 ⟨"LentBoundsModel", "row", "(II)I"⟩) ∈ wa_T := wa_in 761 (by decide +kernel) rfl
theorem wd_762 : (Cond.instanceMethod ⟨"LentBoundsModel", "row", "(II)I"⟩) ∈ wa_T := wa_in 762 (by decide +kernel) rfl
theorem wd_763 : (Cond.selects "LentBoundsModel" ⟨"LentBoundsModel", "row", "(II)I"⟩ ⟨"LentBoundsModel", "row", "(II)I"⟩) ∈ wa_T := wa_in 763 (by decide +kernel) rfl
theorem wd_764 : (Cond.code ⟨"LentBoundsModel", "row", "(II)I"⟩ prog_8_method_30_code 3 (some .int)) ∈ wa_T := wa_in 764 (by decide +kernel) rfl
theorem wd_765 : (Cond.methodLink "LentBoundsLaw" 111 ⟨"LentBoundsModel", "lent", "(I)J"⟩) ∈ wa_T := wa_in 765 (by decide +kernel) rfl
theorem wd_766 : (Cond.instanceMethod ⟨"LentBoundsModel", "lent", "(I)J"⟩) ∈ wa_T := wa_in 766 (by decide +kernel) rfl
theorem wd_767 : (Cond.selects "LentBoundsModel" ⟨"LentBoundsModel", "lent", "(I)J"⟩ ⟨"LentBoundsModel", "lent", "(I)J"⟩) ∈ wa_T := wa_in 767 (by decide +kernel) rfl
theorem wd_768 : (Cond.code ⟨"LentBoundsModel", "lent", "(I)J"⟩ prog_8_method_31_code 2 (some .long)) ∈ wa_T := wa_in 768 (by decide +kernel) rfl
theorem wd_769 : (Cond.methodLink "LentBoundsLaw" 114 ⟨"LentBoundsModel", "waits", "(II)J"⟩) ∈ wa_T := wa_in 769 (by decide +kernel) rfl
theorem wd_770 : (Cond.instanceMethod ⟨"LentBoundsModel", "waits", "(II)J"⟩) ∈ wa_T := wa_in 770 (by decide +kernel) rfl
theorem wd_771 : (Cond.selects "LentBoundsModel" ⟨"LentBoundsModel", "waits", "(II)J"⟩ ⟨"LentBoundsModel", "waits", "(II)J"⟩) ∈ wa_T := wa_in 771 (by decide +kernel) rfl
theorem wd_772 : (Cond.code ⟨"LentBoundsModel", "waits", "(II)J"⟩ prog_8_method_32_code 3 (some .long)) ∈ wa_T := wa_in 772 (by decide +kernel) rfl
theorem wd_773 : (Cond.methodLink "LentBoundsLaw" 118 ⟨"LentBoundsModel", "person", "(II)I"⟩) ∈ wa_T := wa_in 773 (by decide +kernel) rfl
theorem wd_774 : (Cond.instanceMethod ⟨"LentBoundsModel", "person", "(II)I"⟩) ∈ wa_T := wa_in 774 (by decide +kernel) rfl
theorem wd_775 : (Cond.selects "LentBoundsModel" ⟨"LentBoundsModel", "person", "(II)I"⟩ ⟨"LentBoundsModel", "person", "(II)I"⟩) ∈ wa_T := wa_in 775 (by decide +kernel) rfl
theorem wd_776 : (Cond.code ⟨"LentBoundsModel", "person", "(II)I"⟩ prog_8_method_33_code 5 (some .int)) ∈ wa_T := wa_in 776 (by decide +kernel) rfl
theorem wd_777 : (Cond.methodLink "LentBoundsLaw" 122 ⟨"LentBoundsModel", "total", "(I)I"⟩) ∈ wa_T := wa_in 777 (by decide +kernel) rfl
theorem wd_778 : (Cond.instanceMethod ⟨"LentBoundsModel", "total", "(I)I"⟩) ∈ wa_T := wa_in 778 (by decide +kernel) rfl
theorem wd_779 : (Cond.selects "LentBoundsModel" ⟨"LentBoundsModel", "total", "(I)I"⟩ ⟨"LentBoundsModel", "total", "(I)I"⟩) ∈ wa_T := wa_in 779 (by decide +kernel) rfl
theorem wd_780 : (Cond.code ⟨"LentBoundsModel", "total", "(I)I"⟩ prog_8_method_34_code 2 (some .int)) ∈ wa_T := wa_in 780 (by decide +kernel) rfl
theorem wd_781 : (Cond.constantLong "LentBoundsLaw" 40 4294967295) ∈ wa_T := wa_in 781 (by decide +kernel) rfl
end
section
/-! Base rows of my own: a world in one word (wo_w), rows of instructions over it, contracts (ct_I, ct_L, ct_V) over a world that a state names, calls in one row. -/
def wo_w (D : va_G) (cl : List vw_C) (A : Nat → Prop) (H0 : Heap) (ws : va_W) (H : Heap) (locs : List Loc) : Prop := va_P D cl ws H ∧ va_D A ws ∧ va_S A H0 H locs
def ct_P (D : va_G) (cl : List vw_C) (tys : List (ClassId × FieldType)) (w : va_W) (sz : Nat) (as : List Value) : Array Value → State → Prop :=
  va_Pc as (fun U => U.heap.size = sz ∧ va_P D cl w U.heap ∧ va_K D cl tys U ∧ va_D (fun _ => True) w)
def ct_B {σ : Type} (D : va_G) (cl : List vw_C) (tys : List (ClassId × FieldType)) (wd : σ → va_W) (A : Nat → Prop) : σ → State → Prop := fun S t => va_P D cl (wd S) t.heap ∧ va_K D cl tys t ∧ va_D A (wd S)
/-- contracts: an int (boolean), a long, nothing; no cell is made -/
def ct_I {σ : Type} (l : Launch) (y : MethodName) (wz : List Cond) (rm : Room) (D : va_G) (cl : List vw_C) (tys : List (ClassId × FieldType)) (wd : σ → va_W) (S : σ) (as : List Value) (post : Int32 → σ → Prop) : Prop :=
  ∀ sz : Nat, Met l y wz rm (ct_P D cl tys (wd S) sz as) (va_Qi post (ct_B D cl tys wd (va_A (wd S) sz)) (va_A (wd S) sz)) 0 0 (va_A (wd S) sz)
def ct_L {σ : Type} (l : Launch) (y : MethodName) (wz : List Cond) (rm : Room) (D : va_G) (cl : List vw_C) (tys : List (ClassId × FieldType)) (wd : σ → va_W) (S : σ) (as : List Value) (post : Int64 → σ → Prop) : Prop :=
  ∀ sz : Nat, Met l y wz rm (ct_P D cl tys (wd S) sz as) (va_Ql post (ct_B D cl tys wd (va_A (wd S) sz)) (va_A (wd S) sz)) 0 0 (va_A (wd S) sz)
def ct_V {σ : Type} (l : Launch) (y : MethodName) (wz : List Cond) (rm : Room) (D : va_G) (cl : List vw_C) (tys : List (ClassId × FieldType)) (wd : σ → va_W) (S : σ) (as : List Value) (post : σ → Prop) : Prop :=
  ∀ sz : Nat, Met l y wz rm (ct_P D cl tys (wd S) sz as) (va_Qv post (ct_B D cl tys wd (va_A (wd S) sz)) (va_A (wd S) sz)) 0 0 (va_A (wd S) sz)
theorem ct_blind {D : va_G} {cl : List vw_C} {tys : List (ClassId × FieldType)} {w : va_W} {sz : Nat} {as : List Value} : FrameBlind (ct_P D cl tys w sz as) := fun a U g mk q => by
  obtain ⟨q0, q1, qP, qK, qD⟩ := q
  exact ⟨q0, q1, qP, va_K.moved (u := U) (U := U.calling g mk a) (Vm.Alike.refl U.vm) qK, qD⟩
section BaseRows
variable {p : Program} {l : Launch} {e : Env} {R : Room} {s : State} {m : MethodId} {args : Array Value} {below : List Frame} {meth : Method} {c : Code} {H : Heap} {locs : List Loc} {cells slots : Nat} {Q : State → Prop}
variable {cc : ByteArray} {pc : Nat} {ls : Array Slot} {rest st0 : List Value} {D : va_G} {cl : List vw_C} {A : Nat → Prop} {a : Nat} {tys : List (ClassId × FieldType)} {ws ws2 : va_W} {H0 : Heap}
theorem tp_i {x y : Int32} (h : x = y) (k : W p l e R s m args below meth c H locs cells slots Q (F0 m pc ls (.int y :: rest))) : W p l e R s m args below meth c H locs cells slots Q (F0 m pc ls (.int x :: rest)) := by
  rw [h]; exact k
theorem tp_l {x y : Int64} (h : x = y) (k : W p l e R s m args below meth c H locs cells slots Q (F0 m pc ls (.long y :: rest))) : W p l e R s m args below meth c H locs cells slots Q (F0 m pc ls (.long x :: rest)) := by
  rw [h]; exact k
theorem wo_free (hw : wo_w D cl A H0 ws H locs) (hA : ∀ q, H0.size ≤ q → A q) : ∀ q, va_A ws H.size q → A q := by
  intro q hq
  rcases hq with ⟨k, e, hk⟩ | hq
  · exact hw.2.1.2 k _ hk
  · exact hA q (Nat.le_trans hw.2.2.1 hq)
theorem wo_get (hexec : p.tables.exec = Jvm.exec) (hb : c.code = cc) {own ref C : String} {T : u_T} {N ci index : Nat} {Ts : List Cond} (hts : ∀ w ∈ Ts, w.before args s = true) (hin : ∀ w ∈ u_ws C T N, w ∈ Ts) (hown : s.vm.findClass own = some m.cls) (hK : va_K D cl tys s) (hw : wo_w D cl A H0 ws H locs) (q0 : Nat) {fs : List Value} (he : ws[q0]? = some (a, .inr (ci, fs))) (hc : cl[ci]? = some (C, T, N)) (k : Nat) (hk : k < N) (hlink : (Cond.fieldLink own index ref (T k).2.1 (T k).2.2.1).before args s = true) (hsame : ∀ x, s.fieldFound? (T k).1 (T k).2.1 (T k).2.2.1 = some x → s.fieldFound? ref (T k).2.1 (T k).2.2.1 = some x) {v : Value} (hv : fs[k]? = some v) (hdg : decode cc pc = .ok (.getfield index, 3))
    (kk : W p l e R s m args below meth c H locs cells slots Q (F0 m (pc + 3) ls (v :: rest))) : W p l e R s m args below meth c H locs cells slots Q (F0 m pc ls (.ref a :: rest)) :=
  va_get hexec hb hts hin hown hK hw.1 q0 he hc k hk hlink hsame hv hdg kk
theorem wo_put (hexec : p.tables.exec = Jvm.exec) (hb : c.code = cc) {own ref C : String} {T : u_T} {N ci index : Nat} {Ts : List Cond} (hts : ∀ w ∈ Ts, w.before args s = true) (hin : ∀ w ∈ u_ws C T N, w ∈ Ts) (ty0 : Nat → FieldType) (hty : ∀ k, k < N → parseFieldDescriptor (T k).2.2.1 = some (ty0 k)) (hnm : ∀ a, a < N → ∀ b, b < N → a ≠ b → (T a).2.1 ≠ (T b).2.1) (hown : s.vm.findClass own = some m.cls) (hK : va_K D cl tys s) (hw : wo_w D cl A H0 ws H locs) (q0 : Nat) {fs : List Value} (he : ws[q0]? = some (a, .inr (ci, fs))) (hc : cl[ci]? = some (C, T, N)) (k : Nat) (hk : k < N) (hlink : (Cond.fieldLink own index ref (T k).2.1 (T k).2.2.1).before args s = true) (hsame : ∀ x, s.fieldFound? (T k).1 (T k).2.1 (T k).2.2.1 = some x → s.fieldFound? ref (T k).2.1 (T k).2.2.1 = some x) (hfin : (T k).2.2.2 = false) {ty : FieldType} {v : Value} (hd : parseFieldDescriptor (T k).2.2.1 = some ty) (hn : narrow ty v = v) (hfit : fits ty v = true) (hl : k < fs.length)
    (hset : ws.set q0 (a, .inr (ci, fs.set k v)) = ws2) (hdg : decode cc pc = .ok (.putfield index, 3)) (kk : ∀ (H1 : Heap) (locs1 : List Loc), wo_w D cl A H0 ws2 H1 locs1 → W p l e R s m args below meth c H1 locs1 cells slots Q (F0 m (pc + 3) ls rest)) : W p l e R s m args below meth c H locs cells slots Q (F0 m pc ls (v :: .ref a :: rest)) := by
  subst hset
  exact va_put hexec hb hts hin ty0 hty hnm hown hK hw.1 hw.2.1 hw.2.2 q0 he hc k hk hlink hsame hfin hd hn hfit hl hdg (fun H1 locs1 h1 h2 h3 => kk H1 locs1 ⟨h1, h2, h3⟩)
theorem wo_iald (hexec : p.tables.exec = Jvm.exec) (hb : c.code = cc) (hK : va_K D cl tys s) (hw : wo_w D cl A H0 ws H locs) (q0 t0 : Nat) {cA : ClassId} {n : Nat} {f : Nat → Int32} (ha : ws[q0]? = some (a, .inl (cA, n, .inl f))) (ht : tys[t0]? = some (cA, .int)) {i : Int32} (j : Nat) (hi : i = nI j) (hj : j < n) (hn : n < 2 ^ 31) (hdg : decode cc pc = .ok (.iaload, 1))
    (kk : W p l e R s m args below meth c H locs cells slots Q (F0 m (pc + 1) ls (.int (f j) :: rest))) : W p l e R s m args below meth c H locs cells slots Q (F0 m pc ls (.int i :: .ref a :: rest)) := by
  subst hi
  refine va_iald hexec hb hK hw.1 q0 t0 ha ht (vp_in_nI hj hn) hdg ?_
  rw [nI_clamp (Nat.lt_trans hj hn)]; exact kk
theorem wo_zald (hexec : p.tables.exec = Jvm.exec) (hb : c.code = cc) (hK : va_K D cl tys s) (hw : wo_w D cl A H0 ws H locs) (q0 t0 : Nat) {cA : ClassId} {n : Nat} {f : Nat → Int32} (ha : ws[q0]? = some (a, .inl (cA, n, .inl f))) (ht : tys[t0]? = some (cA, .boolean)) {i : Int32} (j : Nat) (hi : i = nI j) (hj : j < n) (hn : n < 2 ^ 31) (hdg : decode cc pc = .ok (.baload, 1))
    (kk : W p l e R s m args below meth c H locs cells slots Q (F0 m (pc + 1) ls (.int (f j) :: rest))) : W p l e R s m args below meth c H locs cells slots Q (F0 m pc ls (.int i :: .ref a :: rest)) := by
  subst hi
  refine va_zald hexec hb hK hw.1 q0 t0 ha ht (vp_in_nI hj hn) hdg ?_
  rw [nI_clamp (Nat.lt_trans hj hn)]; exact kk
theorem wo_lald (hexec : p.tables.exec = Jvm.exec) (hb : c.code = cc) (hK : va_K D cl tys s) (hw : wo_w D cl A H0 ws H locs) (q0 t0 : Nat) {cA : ClassId} {n : Nat} {f : Nat → Int64} (ha : ws[q0]? = some (a, .inl (cA, n, .inr (.inl f)))) (ht : tys[t0]? = some (cA, .long)) {i : Int32} (j : Nat) (hi : i = nI j) (hj : j < n) (hn : n < 2 ^ 31) (hdg : decode cc pc = .ok (.laload, 1))
    (kk : W p l e R s m args below meth c H locs cells slots Q (F0 m (pc + 1) ls (.long (f j) :: rest))) : W p l e R s m args below meth c H locs cells slots Q (F0 m pc ls (.int i :: .ref a :: rest)) := by
  subst hi
  refine va_lald hexec hb hK hw.1 q0 t0 ha ht (vp_in_nI hj hn) hdg ?_
  rw [nI_clamp (Nat.lt_trans hj hn)]; exact kk
theorem wo_aald (hexec : p.tables.exec = Jvm.exec) (hb : c.code = cc) (hK : va_K D cl tys s) (hw : wo_w D cl A H0 ws H locs) (q0 t0 : Nat) {cA : ClassId} {t : FieldType} {n : Nat} {f : Nat → Option Nat} (ha : ws[q0]? = some (a, .inl (cA, n, .inr (.inr (.inr (.inr f)))))) (ht : tys[t0]? = some (cA, .array t)) {i : Int32} (j : Nat) (hi : i = nI j) (hj : j < n) (hn : n < 2 ^ 31) {b : Nat} (hf : f j = some b) (hdg : decode cc pc = .ok (.aaload, 1))
    (kk : W p l e R s m args below meth c H locs cells slots Q (F0 m (pc + 1) ls (.ref b :: rest))) : W p l e R s m args below meth c H locs cells slots Q (F0 m pc ls (.int i :: .ref a :: rest)) := by
  subst hi
  have hin := vp_in_nI hj hn
  have hc := nI_clamp (Nat.lt_trans hj hn)
  exact W.aald (v := .ref b) (ty := .array t) hexec hb (hw.1 q0 _ ha) ((hK.2 t0 _ ht).1 n (fun j => va_rf (f j))) rfl (fun q => by cases q) (by show ¬ (nI j < 0 ∨ (arrV _ _ _).slots.size ≤ _); rw [arrV_size]; exact hin) (by show (arrV _ _ _).slots[_]? = _; rw [hc, arrV_read _ _ hj, hf]; rfl) rfl rfl hdg kk
theorem wo_iast (hexec : p.tables.exec = Jvm.exec) (hb : c.code = cc) (hK : va_K D cl tys s) (hw : wo_w D cl A H0 ws H locs) (q0 t0 : Nat) {cA : ClassId} {n : Nat} {f : Nat → Int32} (ha : ws[q0]? = some (a, .inl (cA, n, .inl f))) (ht : tys[t0]? = some (cA, .int)) {i x : Int32} (j : Nat) (hi : i = nI j) (hj : j < n) (hn : n < 2 ^ 31) (hset : ws.set q0 (a, .inl (cA, n, .inl (upd f j x))) = ws2) (hdg : decode cc pc = .ok (.iastore, 1))
    (kk : ∀ (H1 : Heap) (locs1 : List Loc), wo_w D cl A H0 ws2 H1 locs1 → W p l e R s m args below meth c H1 locs1 cells slots Q (F0 m (pc + 1) ls rest)) : W p l e R s m args below meth c H locs cells slots Q (F0 m pc ls (.int x :: .int i :: .ref a :: rest)) := by
  subst hi; subst hset
  have hc := nI_clamp (Nat.lt_trans hj hn)
  refine va_iast hexec hb hK hw.1 hw.2.1 hw.2.2 q0 t0 ha ht (vp_in_nI hj hn) hdg (fun H1 locs1 h1 h2 h3 => kk H1 locs1 ⟨?_, ?_, h3⟩)
  · rw [hc] at h1; exact h1
  · rw [hc] at h2; exact h2
theorem wo_zast (hexec : p.tables.exec = Jvm.exec) (hb : c.code = cc) (hK : va_K D cl tys s) (hw : wo_w D cl A H0 ws H locs) (q0 t0 : Nat) {cA : ClassId} {n : Nat} {f : Nat → Int32} (ha : ws[q0]? = some (a, .inl (cA, n, .inl f))) (ht : tys[t0]? = some (cA, .boolean)) {i x : Int32} (j : Nat) (hi : i = nI j) (hj : j < n) (hn : n < 2 ^ 31) (hx : vp_nar .boolean x = x) (hset : ws.set q0 (a, .inl (cA, n, .inl (upd f j x))) = ws2) (hdg : decode cc pc = .ok (.bastore, 1))
    (kk : ∀ (H1 : Heap) (locs1 : List Loc), wo_w D cl A H0 ws2 H1 locs1 → W p l e R s m args below meth c H1 locs1 cells slots Q (F0 m (pc + 1) ls rest)) : W p l e R s m args below meth c H locs cells slots Q (F0 m pc ls (.int x :: .int i :: .ref a :: rest)) := by
  subst hi; subst hset
  have hc := nI_clamp (Nat.lt_trans hj hn)
  refine va_zast hexec hb hK hw.1 hw.2.1 hw.2.2 q0 t0 ha ht (vp_in_nI hj hn) hdg (fun H1 locs1 h1 h2 h3 => kk H1 locs1 ⟨?_, ?_, h3⟩)
  · rw [hc, hx] at h1; exact h1
  · rw [hc, hx] at h2; exact h2
theorem wo_last (hexec : p.tables.exec = Jvm.exec) (hb : c.code = cc) (hK : va_K D cl tys s) (hw : wo_w D cl A H0 ws H locs) (q0 t0 : Nat) {cA : ClassId} {n : Nat} {f : Nat → Int64} (ha : ws[q0]? = some (a, .inl (cA, n, .inr (.inl f)))) (ht : tys[t0]? = some (cA, .long)) {i : Int32} {x : Int64} (j : Nat) (hi : i = nI j) (hj : j < n) (hn : n < 2 ^ 31) (hset : ws.set q0 (a, .inl (cA, n, .inr (.inl (vp_updL f j x)))) = ws2) (hdg : decode cc pc = .ok (.lastore, 1))
    (kk : ∀ (H1 : Heap) (locs1 : List Loc), wo_w D cl A H0 ws2 H1 locs1 → W p l e R s m args below meth c H1 locs1 cells slots Q (F0 m (pc + 1) ls rest)) : W p l e R s m args below meth c H locs cells slots Q (F0 m pc ls (.long x :: .int i :: .ref a :: rest)) := by
  subst hi; subst hset
  have hc := nI_clamp (Nat.lt_trans hj hn)
  refine va_last hexec hb hK hw.1 hw.2.1 hw.2.2 q0 t0 ha ht (vp_in_nI hj hn) hdg (fun H1 locs1 h1 h2 h3 => kk H1 locs1 ⟨?_, ?_, h3⟩)
  · rw [hc] at h1; exact h1
  · rw [hc] at h2; exact h2
theorem wo_alen (hexec : p.tables.exec = Jvm.exec) (hb : c.code = cc) (hK : va_K D cl tys s) (hw : wo_w D cl A H0 ws H locs) (q0 t0 : Nat) {cA : ClassId} {x : vp_A} (ha : ws[q0]? = some (a, .inl (cA, x))) {ty : FieldType} (ht : tys[t0]? = some (cA, ty)) (hdg : decode cc pc = .ok (.arraylength, 1))
    (kk : W p l e R s m args below meth c H locs cells slots Q (F0 m (pc + 1) ls (.int (nI x.1) :: rest))) : W p l e R s m args below meth c H locs cells slots Q (F0 m pc ls (.ref a :: rest)) :=
  va_alen hexec hb hK hw.1 q0 t0 ha ht rfl hdg kk
section Calls
variable {σ : Type} {wd : σ → va_W} {S : σ} {y : MethodName} {wz : List Cond} {rm : Room} {bytes : ByteArray} {maxL nL n index : Nat} {ret : Option FieldType} {Ts : List Cond} {own C host : String} {b : Addr} {As : List Value}
theorem wo_pre (hK : va_K D cl tys s) (hw : wo_w D cl A H0 (wd S) H locs) (as : List Value) : PreS s H (ct_P D cl tys (wd S) H.size as) as :=
  ⟨ct_blind, fun U hU hW => ⟨rfl, by rw [hU], by rw [hU]; exact hw.1, va_K.moved hW.alike hK, hw.2.1.weaken (fun _ _ _ _ => trivial)⟩⟩
theorem wo_preV (hK : va_K D cl tys s) (hw : wo_w D cl A H0 (wd S) H locs) (q0 : Nat) {ci : Nat} {r : vw_C} {fs : List Value} (hc : cl[ci]? = some r) (he : (wd S)[q0]? = some (b, .inr (ci, fs))) (As : List Value) : PreV s H r.1 b (ct_P D cl tys (wd S) H.size (.ref b :: As)) As :=
  ⟨ct_blind, va_recv hK hw.1 hc he, (wo_pre hK hw (.ref b :: As)).2⟩
theorem wo_cI {post : Int32 → σ → Prop} {ar : Array Value} (hw : wo_w D cl A H0 (wd S) H locs) (hA : ∀ q, H0.size ≤ q → A q)
    (hr : va_Run p l e R s m args below meth c H locs cells slots 0 0 (F0 m pc ls st0) rest (va_Qi post (ct_B D cl tys wd (va_A (wd S) H.size)) (va_A (wd S) H.size) ar) (va_A (wd S) H.size))
    (kk : ∀ (r : Int32) (S' : σ) (H1 : Heap) (locs1 : List Loc), post r S' → wo_w D cl A H0 (wd S') H1 locs1 → W p l e R s m args below meth c H1 locs1 cells slots Q (F0 m (pc + 3) ls (.int r :: rest))) : W p l e R s m args below meth c H locs cells slots Q (F0 m pc ls st0) := by
  have hF := wo_free hw hA
  refine va_calli hr hw.2.2 (fun q _ h => hF q h) hF (fun r u t H1 locs1 ht hvm hp hB hz1 hk1 hS => ?_)
  obtain ⟨hP1, hK1, hD1⟩ := hB
  rw [ht] at hP1
  exact kk r u H1 locs1 hp ⟨hP1, hD1.weaken (fun _ _ _ h => hF _ h), hS⟩
theorem wo_cL {post : Int64 → σ → Prop} {ar : Array Value} (hw : wo_w D cl A H0 (wd S) H locs) (hA : ∀ q, H0.size ≤ q → A q)
    (hr : va_Run p l e R s m args below meth c H locs cells slots 0 0 (F0 m pc ls st0) rest (va_Ql post (ct_B D cl tys wd (va_A (wd S) H.size)) (va_A (wd S) H.size) ar) (va_A (wd S) H.size))
    (kk : ∀ (r : Int64) (S' : σ) (H1 : Heap) (locs1 : List Loc), post r S' → wo_w D cl A H0 (wd S') H1 locs1 → W p l e R s m args below meth c H1 locs1 cells slots Q (F0 m (pc + 3) ls (.long r :: rest))) : W p l e R s m args below meth c H locs cells slots Q (F0 m pc ls st0) := by
  have hF := wo_free hw hA
  refine va_calll hr hw.2.2 (fun q _ h => hF q h) hF (fun r u t H1 locs1 ht hvm hp hB hz1 hk1 hS => ?_)
  obtain ⟨hP1, hK1, hD1⟩ := hB
  rw [ht] at hP1
  exact kk r u H1 locs1 hp ⟨hP1, hD1.weaken (fun _ _ _ h => hF _ h), hS⟩
theorem wo_cV {post : σ → Prop} {ar : Array Value} (hw : wo_w D cl A H0 (wd S) H locs) (hA : ∀ q, H0.size ≤ q → A q)
    (hr : va_Run p l e R s m args below meth c H locs cells slots 0 0 (F0 m pc ls st0) rest (va_Qv post (ct_B D cl tys wd (va_A (wd S) H.size)) (va_A (wd S) H.size) ar) (va_A (wd S) H.size))
    (kk : ∀ (S' : σ) (H1 : Heap) (locs1 : List Loc), post S' → wo_w D cl A H0 (wd S') H1 locs1 → W p l e R s m args below meth c H1 locs1 cells slots Q (F0 m (pc + 3) ls rest)) : W p l e R s m args below meth c H locs cells slots Q (F0 m pc ls st0) := by
  have hF := wo_free hw hA
  refine va_callv hr hw.2.2 (fun q _ h => hF q h) hF (fun u t H1 locs1 ht hvm hp hB hz1 hk1 hS => ?_)
  obtain ⟨hP1, hK1, hD1⟩ := hB
  rw [ht] at hP1
  exact kk u H1 locs1 hp ⟨hP1, hD1.weaken (fun _ _ _ h => hF _ h), hS⟩
/-- the entry of a method whose contract is ct_I, ct_L, ct_V -/
theorem ct_ofI {ret : Option FieldType} {as : List Value} {post : Int32 → σ → Prop} (hy : plainName y.cls = true) (hn : (lg_sl as).length ≤ maxL)
    (body : ∀ (p : Program) (e : Env) (s : State) (m : MethodId) (below : List Frame) (meth : Method) (c : Code) (A : Nat → Prop) (ls : Array Slot), p.tables.exec = Jvm.exec → c.code = cc → meth.sig.returnType = ret → c.maxLocals = maxL → (∀ w ∈ wa_T, w.before as.toArray s = true) → s.vm.findClass y.cls = some m.cls → meth.locks = false → va_K D cl tys s → (∀ q : Nat, s.heap.size ≤ q → A q) → wo_w D cl A s.heap (wd S) s.heap [] → lv_has ls maxL (lv_args 0 as) →
      W p l e rm s m as.toArray below meth c s.heap [] 0 0 (MQ below (va_Qi post (ct_B D cl tys wd A) A) as.toArray s 0 0 A) (F0 m 0 ls [])) : ct_I l y (Cond.code y cc maxL ret :: wa_T) rm D cl tys wd S as post := by
  intro sz
  refine Met.ofW (cc := cc) (maxL := maxL) (ret := ret) hy rfl ?_
  intro p e s m args below meth c s₁ B hml hv
  obtain ⟨rfl, hsz, hP, hK, hD0⟩ := hv
  subst hsz
  have hl := lv_entry as (n := maxL) hn
  rw [lg_entry_eq]
  exact body p e s m below meth c _ _ B.exec B.bytes B.returns hml (fun w h => atoms_spec (ws := Cond.code y cc maxL ret :: wa_T) B.pre w (List.mem_cons_of_mem _ h)) (findClass_of_methodNamed B.named) B.notSynchronized hK (fun q h => Or.inr h) ⟨hP, hD0.self, va_S.rf⟩ hl
theorem ct_ofL {ret : Option FieldType} {as : List Value} {post : Int64 → σ → Prop} (hy : plainName y.cls = true) (hn : (lg_sl as).length ≤ maxL)
    (body : ∀ (p : Program) (e : Env) (s : State) (m : MethodId) (below : List Frame) (meth : Method) (c : Code) (A : Nat → Prop) (ls : Array Slot), p.tables.exec = Jvm.exec → c.code = cc → meth.sig.returnType = ret → c.maxLocals = maxL → (∀ w ∈ wa_T, w.before as.toArray s = true) → s.vm.findClass y.cls = some m.cls → meth.locks = false → va_K D cl tys s → (∀ q : Nat, s.heap.size ≤ q → A q) → wo_w D cl A s.heap (wd S) s.heap [] → lv_has ls maxL (lv_args 0 as) →
      W p l e rm s m as.toArray below meth c s.heap [] 0 0 (MQ below (va_Ql post (ct_B D cl tys wd A) A) as.toArray s 0 0 A) (F0 m 0 ls [])) : ct_L l y (Cond.code y cc maxL ret :: wa_T) rm D cl tys wd S as post := by
  intro sz
  refine Met.ofW (cc := cc) (maxL := maxL) (ret := ret) hy rfl ?_
  intro p e s m args below meth c s₁ B hml hv
  obtain ⟨rfl, hsz, hP, hK, hD0⟩ := hv
  subst hsz
  have hl := lv_entry as (n := maxL) hn
  rw [lg_entry_eq]
  exact body p e s m below meth c _ _ B.exec B.bytes B.returns hml (fun w h => atoms_spec (ws := Cond.code y cc maxL ret :: wa_T) B.pre w (List.mem_cons_of_mem _ h)) (findClass_of_methodNamed B.named) B.notSynchronized hK (fun q h => Or.inr h) ⟨hP, hD0.self, va_S.rf⟩ hl
theorem ct_ofV {ret : Option FieldType} {as : List Value} {post : σ → Prop} (hy : plainName y.cls = true) (hn : (lg_sl as).length ≤ maxL)
    (body : ∀ (p : Program) (e : Env) (s : State) (m : MethodId) (below : List Frame) (meth : Method) (c : Code) (A : Nat → Prop) (ls : Array Slot), p.tables.exec = Jvm.exec → c.code = cc → meth.sig.returnType = ret → c.maxLocals = maxL → (∀ w ∈ wa_T, w.before as.toArray s = true) → s.vm.findClass y.cls = some m.cls → meth.locks = false → va_K D cl tys s → (∀ q : Nat, s.heap.size ≤ q → A q) → wo_w D cl A s.heap (wd S) s.heap [] → lv_has ls maxL (lv_args 0 as) →
      W p l e rm s m as.toArray below meth c s.heap [] 0 0 (MQ below (va_Qv post (ct_B D cl tys wd A) A) as.toArray s 0 0 A) (F0 m 0 ls [])) : ct_V l y (Cond.code y cc maxL ret :: wa_T) rm D cl tys wd S as post := by
  intro sz
  refine Met.ofW (cc := cc) (maxL := maxL) (ret := ret) hy rfl ?_
  intro p e s m args below meth c s₁ B hml hv
  obtain ⟨rfl, hsz, hP, hK, hD0⟩ := hv
  subst hsz
  have hl := lv_entry as (n := maxL) hn
  rw [lg_entry_eq]
  exact body p e s m below meth c _ _ B.exec B.bytes B.returns hml (fun w h => atoms_spec (ws := Cond.code y cc maxL ret :: wa_T) B.pre w (List.mem_cons_of_mem _ h)) (findClass_of_methodNamed B.named) B.notSynchronized hK (fun q h => Or.inr h) ⟨hP, hD0.self, va_S.rf⟩ hl
/-- the ends -/
theorem ct_iret {post : Int32 → σ → Prop} (hexec : p.tables.exec = Jvm.exec) (hb : c.code = cc) (hr : meth.sig.returnType = some .int) (hlocks : meth.locks = false) (hK : va_K D cl tys s) {v : Int32} (hw : wo_w D cl A s.heap (wd S) H locs) (hp : post v S) (hdg : decode cc pc = .ok (.ireturn, 1)) :
    W p l e R s m args below meth c H locs 0 0 (MQ below (va_Qi post (ct_B D cl tys wd A) A) args s 0 0 A) (F0 m pc ls [.int v]) :=
  W.iret (v := v) hexec hb hr (fun t ht hW => ⟨⟨v, S, rfl, hp, by rw [ht]; exact hw.1, va_K.moved hW.alike hK, hw.2.1⟩, hw.2.2.F ht⟩) hw.2.2.2.2 hdg hlocks
theorem ct_zret {post : Int32 → σ → Prop} (hexec : p.tables.exec = Jvm.exec) (hb : c.code = cc) (hr : meth.sig.returnType = some .boolean) (hlocks : meth.locks = false) (hK : va_K D cl tys s) {v : Int32} (hn : narrow .boolean (.int v) = .int v) (hw : wo_w D cl A s.heap (wd S) H locs) (hp : post v S) (hdg : decode cc pc = .ok (.ireturn, 1)) :
    W p l e R s m args below meth c H locs 0 0 (MQ below (va_Qi post (ct_B D cl tys wd A) A) args s 0 0 A) (F0 m pc ls [.int v]) :=
  W.zret (v := v) hexec hb hr hn (fun t ht hW => ⟨⟨v, S, rfl, hp, by rw [ht]; exact hw.1, va_K.moved hW.alike hK, hw.2.1⟩, hw.2.2.F ht⟩) hw.2.2.2.2 hdg hlocks
theorem ct_lret {post : Int64 → σ → Prop} (hexec : p.tables.exec = Jvm.exec) (hb : c.code = cc) (hr : meth.sig.returnType = some .long) (hlocks : meth.locks = false) (hK : va_K D cl tys s) {v : Int64} (hw : wo_w D cl A s.heap (wd S) H locs) (hp : post v S) (hdg : decode cc pc = .ok (.lreturn, 1)) :
    W p l e R s m args below meth c H locs 0 0 (MQ below (va_Ql post (ct_B D cl tys wd A) A) args s 0 0 A) (F0 m pc ls [.long v]) :=
  W.lret (v := v) hexec hb hr (fun t ht hW => ⟨⟨v, S, rfl, hp, by rw [ht]; exact hw.1, va_K.moved hW.alike hK, hw.2.1⟩, hw.2.2.F ht⟩) hw.2.2.2.2 hdg hlocks
theorem ct_vret {post : σ → Prop} (hexec : p.tables.exec = Jvm.exec) (hb : c.code = cc) (hr : meth.sig.returnType = none) (hlocks : meth.locks = false) (hK : va_K D cl tys s) (hw : wo_w D cl A s.heap (wd S) H locs) (hp : post S) (hdg : decode cc pc = .ok (.return_, 1)) :
    W p l e R s m args below meth c H locs 0 0 (MQ below (va_Qv post (ct_B D cl tys wd A) A) args s 0 0 A) (F0 m pc ls []) :=
  W.vret hexec hb hr (fun t ht hW => ⟨⟨S, rfl, hp, by rw [ht]; exact hw.1, va_K.moved hW.alike hK, hw.2.1⟩, hw.2.2.F ht⟩) hw.2.2.2.2 hdg hlocks
end Calls
end BaseRows
end
section
/-! booleans as ints; compare-and-branch of longs; calls in one row -/
def bI (b : Bool) : Int32 := if b = true then nI 1 else nI 0
theorem nb_0 {b : Bool} (h : bI b = 0) : b = false := by
  cases b with
  | false => rfl
  | true => exact absurd h (by decide)
theorem nb_1 {b : Bool} (h : ¬ bI b = 0) : b = true := by
  cases b with
  | true => rfl
  | false => exact absurd (by decide) h
theorem nb_z (b : Bool) : narrow .boolean (.int (bI b)) = .int (bI b) := by
  cases b <;> decide
theorem nI_inc (a : Nat) : nI a + Int32.ofInt 1 = nI (a + 1) := nI_1 a
section LongBranch
variable {p : Program} {l : Launch} {e : Env} {R : Room} {s : State} {m : MethodId} {args : Array Value} {below : List Frame} {meth : Method} {c : Code} {H : Heap} {locs : List Loc} {cells slots : Nat} {Q : State → Prop}
variable {cc : ByteArray} {pc : Nat} {ls : Array Slot} {rest st0 : List Value} {D : va_G} {cl : List vw_C} {A : Nat → Prop} {a : Nat} {tys : List (ClassId × FieldType)} {ws ws2 : va_W} {H0 : Heap}
theorem lc_eq (hexec : p.tables.exec = Jvm.exec) (hb : c.code = cc) {x y : Int64} {off : Int} {tgt : Nat} (d1 : decode cc pc = .ok (.lcmp, 1)) (d2 : decode cc (pc + 1) = .ok (.ifCond .eq off, 3)) (ht : ((pc + 1 : Nat) : Int) + off = (tgt : Int))
    (kt : x = y → W p l e R s m args below meth c H locs cells slots Q (F0 m tgt ls rest)) (kf : ¬ x = y → W p l e R s m args below meth c H locs cells slots Q (F0 m (pc + 1 + 3) ls rest)) : W p l e R s m args below meth c H locs cells slots Q (F0 m pc ls (.long y :: .long x :: rest)) :=
  W.lcmp hexec hb d1 (lv_if_eq hexec hb d2 ht (fun h => kt ((lg_cmp_eq x y).mp h)) (fun h => kf (fun h9 => h ((lg_cmp_eq x y).mpr h9))))
theorem lc_ne (hexec : p.tables.exec = Jvm.exec) (hb : c.code = cc) {x y : Int64} {off : Int} {tgt : Nat} (d1 : decode cc pc = .ok (.lcmp, 1)) (d2 : decode cc (pc + 1) = .ok (.ifCond .ne off, 3)) (ht : ((pc + 1 : Nat) : Int) + off = (tgt : Int))
    (kt : ¬ x = y → W p l e R s m args below meth c H locs cells slots Q (F0 m tgt ls rest)) (kf : x = y → W p l e R s m args below meth c H locs cells slots Q (F0 m (pc + 1 + 3) ls rest)) : W p l e R s m args below meth c H locs cells slots Q (F0 m pc ls (.long y :: .long x :: rest)) :=
  W.lcmp hexec hb d1 (lv_if_ne hexec hb d2 ht (fun h => kt (fun h9 => h ((lg_cmp_eq x y).mpr h9))) (fun h => kf ((lg_cmp_eq x y).mp h)))
theorem lc_lt (hexec : p.tables.exec = Jvm.exec) (hb : c.code = cc) {x y : Int64} {off : Int} {tgt : Nat} (d1 : decode cc pc = .ok (.lcmp, 1)) (d2 : decode cc (pc + 1) = .ok (.ifCond .lt off, 3)) (ht : ((pc + 1 : Nat) : Int) + off = (tgt : Int))
    (kt : x < y → W p l e R s m args below meth c H locs cells slots Q (F0 m tgt ls rest)) (kf : ¬ x < y → W p l e R s m args below meth c H locs cells slots Q (F0 m (pc + 1 + 3) ls rest)) : W p l e R s m args below meth c H locs cells slots Q (F0 m pc ls (.long y :: .long x :: rest)) :=
  W.lcmp hexec hb d1 (lv_if_lt hexec hb d2 ht (fun h => kt ((lg_cmp_lt x y).mp h)) (fun h => kf (fun h9 => h ((lg_cmp_lt x y).mpr h9))))
theorem lc_ge (hexec : p.tables.exec = Jvm.exec) (hb : c.code = cc) {x y : Int64} {off : Int} {tgt : Nat} (d1 : decode cc pc = .ok (.lcmp, 1)) (d2 : decode cc (pc + 1) = .ok (.ifCond .ge off, 3)) (ht : ((pc + 1 : Nat) : Int) + off = (tgt : Int))
    (kt : y ≤ x → W p l e R s m args below meth c H locs cells slots Q (F0 m tgt ls rest)) (kf : ¬ y ≤ x → W p l e R s m args below meth c H locs cells slots Q (F0 m (pc + 1 + 3) ls rest)) : W p l e R s m args below meth c H locs cells slots Q (F0 m pc ls (.long y :: .long x :: rest)) :=
  W.lcmp hexec hb d1 (lv_if_ge hexec hb d2 ht (fun h => kt ((lg_cmp_ge x y).mp h)) (fun h => kf (fun h9 => h ((lg_cmp_ge x y).mpr h9))))
theorem lc_gt (hexec : p.tables.exec = Jvm.exec) (hb : c.code = cc) {x y : Int64} {off : Int} {tgt : Nat} (d1 : decode cc pc = .ok (.lcmp, 1)) (d2 : decode cc (pc + 1) = .ok (.ifCond .gt off, 3)) (ht : ((pc + 1 : Nat) : Int) + off = (tgt : Int))
    (kt : y < x → W p l e R s m args below meth c H locs cells slots Q (F0 m tgt ls rest)) (kf : ¬ y < x → W p l e R s m args below meth c H locs cells slots Q (F0 m (pc + 1 + 3) ls rest)) : W p l e R s m args below meth c H locs cells slots Q (F0 m pc ls (.long y :: .long x :: rest)) :=
  W.lcmp hexec hb d1 (lv_if_gt hexec hb d2 ht (fun h => kt ((lg_cmp_gt x y).mp h)) (fun h => kf (fun h9 => h ((lg_cmp_gt x y).mpr h9))))
theorem lc_le (hexec : p.tables.exec = Jvm.exec) (hb : c.code = cc) {x y : Int64} {off : Int} {tgt : Nat} (d1 : decode cc pc = .ok (.lcmp, 1)) (d2 : decode cc (pc + 1) = .ok (.ifCond .le off, 3)) (ht : ((pc + 1 : Nat) : Int) + off = (tgt : Int))
    (kt : x ≤ y → W p l e R s m args below meth c H locs cells slots Q (F0 m tgt ls rest)) (kf : ¬ x ≤ y → W p l e R s m args below meth c H locs cells slots Q (F0 m (pc + 1 + 3) ls rest)) : W p l e R s m args below meth c H locs cells slots Q (F0 m pc ls (.long y :: .long x :: rest)) :=
  W.lcmp hexec hb d1 (lv_if_le hexec hb d2 ht (fun h => kt ((lg_cmp_le x y).mp h)) (fun h => kf (fun h9 => h ((lg_cmp_le x y).mpr h9))))
end LongBranch
section Calls2
variable {p : Program} {l : Launch} {e : Env} {R : Room} {s : State} {m : MethodId} {args : Array Value} {below : List Frame} {meth : Method} {c : Code} {H : Heap} {locs : List Loc} {cells slots : Nat} {Q : State → Prop}
variable {cc : ByteArray} {pc : Nat} {ls : Array Slot} {rest st0 : List Value} {D : va_G} {cl : List vw_C} {A : Nat → Prop} {tys : List (ClassId × FieldType)} {H0 : Heap}
variable {σ : Type} {wd : σ → va_W} {S : σ} {y : MethodName} {wz : List Cond} {rm : Room} {bytes : ByteArray} {maxL nL n index : Nat} {ret : Option FieldType} {Ts : List Cond} {own C host : String} {b : Addr} {As : List Value}
theorem wo_vI {post : Int32 → σ → Prop} (hM : ct_I l y wz rm D cl tys wd S (.ref b :: As) post) (X : CallFix p m c cc nL s args Ts own) (cw : CallW R s args own C index y bytes maxL ret wz rm 0 0 n) (hK : va_K D cl tys s) (hw : wo_w D cl A H0 (wd S) H locs) (hA : ∀ q, H0.size ≤ q → A q) (q0 : Nat) {ci : Nat} {r0 : vw_C} {fs : List Value} (hc : cl[ci]? = some r0) (hC : r0.1 = C) (he : (wd S)[q0]? = some (b, .inr (ci, fs))) (hn : As.length = n) (hsize : ls.size = nL) (hst : st0 = As.reverse ++ .ref b :: rest) (hrm : (rest.map fun v => v.category).sum ≤ 8) (hdg : decode cc pc = .ok (.invokevirtual index, 3)) (hf : cells + 0 ≤ R.cells ∧ slots + 0 ≤ R.slots)
    (kk : ∀ (r : Int32) (S2 : σ) (H1 : Heap) (locs1 : List Loc), post r S2 → wo_w D cl A H0 (wd S2) H1 locs1 → W p l e R s m args below meth c H1 locs1 cells slots Q (F0 m (pc + 3) ls (.int r :: rest))) : W p l e R s m args below meth c H locs cells slots Q (F0 m pc ls st0) := by
  subst hC
  exact wo_cI hw hA (va_runV (As := As) (rest := rest) X (hM H.size) cw (wo_preV hK hw q0 hc he As) rfl hn hsize hst (lv_room hrm) hdg hf) kk
theorem wo_sI {post : Int32 → σ → Prop} (hM : ct_I l y wz rm D cl tys wd S As post) (X : CallFix p m c cc nL s args Ts own) (cw : CallB R s args own index y bytes maxL ret wz rm 0 0 n ∧ (Cond.static y).before args s = true) (hK : va_K D cl tys s) (hw : wo_w D cl A H0 (wd S) H locs) (hA : ∀ q, H0.size ≤ q → A q) (hn : As.length = n) (hsize : ls.size = nL) (hst : st0 = As.reverse ++ rest) (hrm : (rest.map fun v => v.category).sum ≤ 8) (hdg : decode cc pc = .ok (.invokestatic index, 3)) (hf : cells + 0 ≤ R.cells ∧ slots + 0 ≤ R.slots)
    (kk : ∀ (r : Int32) (S2 : σ) (H1 : Heap) (locs1 : List Loc), post r S2 → wo_w D cl A H0 (wd S2) H1 locs1 → W p l e R s m args below meth c H1 locs1 cells slots Q (F0 m (pc + 3) ls (.int r :: rest))) : W p l e R s m args below meth c H locs cells slots Q (F0 m pc ls st0) :=
  wo_cI hw hA (va_runS (As := As) (rest := rest) X (hM H.size) cw (wo_pre hK hw As) rfl hn hsize hst (lv_room hrm) hdg hf) kk
theorem wo_nI {post : Int32 → σ → Prop} (hM : ct_I l y wz rm D cl tys wd S (.ref b :: As) post) (X : CallFix p m c cc nL s args Ts own) (cw : va_CN R s args own index y host bytes maxL ret wz rm 0 0 n ∧ (Cond.instanceMethod y).before args s = true ∧ (Cond.selects C y y).before args s = true) (hK : va_K D cl tys s) (hw : wo_w D cl A H0 (wd S) H locs) (hA : ∀ q, H0.size ≤ q → A q) (q0 : Nat) {ci : Nat} {r0 : vw_C} {fs : List Value} (hc : cl[ci]? = some r0) (hC : r0.1 = C) (he : (wd S)[q0]? = some (b, .inr (ci, fs))) (hn : As.length = n) (hsize : ls.size = nL) (hst : st0 = As.reverse ++ .ref b :: rest) (hrm : (rest.map fun v => v.category).sum ≤ 8) (hdg : decode cc pc = .ok (.invokevirtual index, 3)) (hf : cells + 0 ≤ R.cells ∧ slots + 0 ≤ R.slots)
    (kk : ∀ (r : Int32) (S2 : σ) (H1 : Heap) (locs1 : List Loc), post r S2 → wo_w D cl A H0 (wd S2) H1 locs1 → W p l e R s m args below meth c H1 locs1 cells slots Q (F0 m (pc + 3) ls (.int r :: rest))) : W p l e R s m args below meth c H locs cells slots Q (F0 m pc ls st0) := by
  subst hC
  exact wo_cI hw hA (va_runVN (As := As) (rest := rest) X (hM H.size) cw (wo_preV hK hw q0 hc he As) rfl hn hsize hst (lv_room hrm) hdg hf) kk
theorem wo_vL {post : Int64 → σ → Prop} (hM : ct_L l y wz rm D cl tys wd S (.ref b :: As) post) (X : CallFix p m c cc nL s args Ts own) (cw : CallW R s args own C index y bytes maxL ret wz rm 0 0 n) (hK : va_K D cl tys s) (hw : wo_w D cl A H0 (wd S) H locs) (hA : ∀ q, H0.size ≤ q → A q) (q0 : Nat) {ci : Nat} {r0 : vw_C} {fs : List Value} (hc : cl[ci]? = some r0) (hC : r0.1 = C) (he : (wd S)[q0]? = some (b, .inr (ci, fs))) (hn : As.length = n) (hsize : ls.size = nL) (hst : st0 = As.reverse ++ .ref b :: rest) (hrm : (rest.map fun v => v.category).sum ≤ 8) (hdg : decode cc pc = .ok (.invokevirtual index, 3)) (hf : cells + 0 ≤ R.cells ∧ slots + 0 ≤ R.slots)
    (kk : ∀ (r : Int64) (S2 : σ) (H1 : Heap) (locs1 : List Loc), post r S2 → wo_w D cl A H0 (wd S2) H1 locs1 → W p l e R s m args below meth c H1 locs1 cells slots Q (F0 m (pc + 3) ls (.long r :: rest))) : W p l e R s m args below meth c H locs cells slots Q (F0 m pc ls st0) := by
  subst hC
  exact wo_cL hw hA (va_runV (As := As) (rest := rest) X (hM H.size) cw (wo_preV hK hw q0 hc he As) rfl hn hsize hst (lv_room hrm) hdg hf) kk
theorem wo_sL {post : Int64 → σ → Prop} (hM : ct_L l y wz rm D cl tys wd S As post) (X : CallFix p m c cc nL s args Ts own) (cw : CallB R s args own index y bytes maxL ret wz rm 0 0 n ∧ (Cond.static y).before args s = true) (hK : va_K D cl tys s) (hw : wo_w D cl A H0 (wd S) H locs) (hA : ∀ q, H0.size ≤ q → A q) (hn : As.length = n) (hsize : ls.size = nL) (hst : st0 = As.reverse ++ rest) (hrm : (rest.map fun v => v.category).sum ≤ 8) (hdg : decode cc pc = .ok (.invokestatic index, 3)) (hf : cells + 0 ≤ R.cells ∧ slots + 0 ≤ R.slots)
    (kk : ∀ (r : Int64) (S2 : σ) (H1 : Heap) (locs1 : List Loc), post r S2 → wo_w D cl A H0 (wd S2) H1 locs1 → W p l e R s m args below meth c H1 locs1 cells slots Q (F0 m (pc + 3) ls (.long r :: rest))) : W p l e R s m args below meth c H locs cells slots Q (F0 m pc ls st0) :=
  wo_cL hw hA (va_runS (As := As) (rest := rest) X (hM H.size) cw (wo_pre hK hw As) rfl hn hsize hst (lv_room hrm) hdg hf) kk
theorem wo_nL {post : Int64 → σ → Prop} (hM : ct_L l y wz rm D cl tys wd S (.ref b :: As) post) (X : CallFix p m c cc nL s args Ts own) (cw : va_CN R s args own index y host bytes maxL ret wz rm 0 0 n ∧ (Cond.instanceMethod y).before args s = true ∧ (Cond.selects C y y).before args s = true) (hK : va_K D cl tys s) (hw : wo_w D cl A H0 (wd S) H locs) (hA : ∀ q, H0.size ≤ q → A q) (q0 : Nat) {ci : Nat} {r0 : vw_C} {fs : List Value} (hc : cl[ci]? = some r0) (hC : r0.1 = C) (he : (wd S)[q0]? = some (b, .inr (ci, fs))) (hn : As.length = n) (hsize : ls.size = nL) (hst : st0 = As.reverse ++ .ref b :: rest) (hrm : (rest.map fun v => v.category).sum ≤ 8) (hdg : decode cc pc = .ok (.invokevirtual index, 3)) (hf : cells + 0 ≤ R.cells ∧ slots + 0 ≤ R.slots)
    (kk : ∀ (r : Int64) (S2 : σ) (H1 : Heap) (locs1 : List Loc), post r S2 → wo_w D cl A H0 (wd S2) H1 locs1 → W p l e R s m args below meth c H1 locs1 cells slots Q (F0 m (pc + 3) ls (.long r :: rest))) : W p l e R s m args below meth c H locs cells slots Q (F0 m pc ls st0) := by
  subst hC
  exact wo_cL hw hA (va_runVN (As := As) (rest := rest) X (hM H.size) cw (wo_preV hK hw q0 hc he As) rfl hn hsize hst (lv_room hrm) hdg hf) kk
theorem wo_vV {post : σ → Prop} (hM : ct_V l y wz rm D cl tys wd S (.ref b :: As) post) (X : CallFix p m c cc nL s args Ts own) (cw : CallW R s args own C index y bytes maxL ret wz rm 0 0 n) (hK : va_K D cl tys s) (hw : wo_w D cl A H0 (wd S) H locs) (hA : ∀ q, H0.size ≤ q → A q) (q0 : Nat) {ci : Nat} {r0 : vw_C} {fs : List Value} (hc : cl[ci]? = some r0) (hC : r0.1 = C) (he : (wd S)[q0]? = some (b, .inr (ci, fs))) (hn : As.length = n) (hsize : ls.size = nL) (hst : st0 = As.reverse ++ .ref b :: rest) (hrm : (rest.map fun v => v.category).sum ≤ 8) (hdg : decode cc pc = .ok (.invokevirtual index, 3)) (hf : cells + 0 ≤ R.cells ∧ slots + 0 ≤ R.slots)
    (kk : ∀ (S2 : σ) (H1 : Heap) (locs1 : List Loc), post S2 → wo_w D cl A H0 (wd S2) H1 locs1 → W p l e R s m args below meth c H1 locs1 cells slots Q (F0 m (pc + 3) ls (rest))) : W p l e R s m args below meth c H locs cells slots Q (F0 m pc ls st0) := by
  subst hC
  exact wo_cV hw hA (va_runV (As := As) (rest := rest) X (hM H.size) cw (wo_preV hK hw q0 hc he As) rfl hn hsize hst (lv_room hrm) hdg hf) kk
theorem wo_sV {post : σ → Prop} (hM : ct_V l y wz rm D cl tys wd S As post) (X : CallFix p m c cc nL s args Ts own) (cw : CallB R s args own index y bytes maxL ret wz rm 0 0 n ∧ (Cond.static y).before args s = true) (hK : va_K D cl tys s) (hw : wo_w D cl A H0 (wd S) H locs) (hA : ∀ q, H0.size ≤ q → A q) (hn : As.length = n) (hsize : ls.size = nL) (hst : st0 = As.reverse ++ rest) (hrm : (rest.map fun v => v.category).sum ≤ 8) (hdg : decode cc pc = .ok (.invokestatic index, 3)) (hf : cells + 0 ≤ R.cells ∧ slots + 0 ≤ R.slots)
    (kk : ∀ (S2 : σ) (H1 : Heap) (locs1 : List Loc), post S2 → wo_w D cl A H0 (wd S2) H1 locs1 → W p l e R s m args below meth c H1 locs1 cells slots Q (F0 m (pc + 3) ls (rest))) : W p l e R s m args below meth c H locs cells slots Q (F0 m pc ls st0) :=
  wo_cV hw hA (va_runS (As := As) (rest := rest) X (hM H.size) cw (wo_pre hK hw As) rfl hn hsize hst (lv_room hrm) hdg hf) kk
theorem wo_nV {post : σ → Prop} (hM : ct_V l y wz rm D cl tys wd S (.ref b :: As) post) (X : CallFix p m c cc nL s args Ts own) (cw : va_CN R s args own index y host bytes maxL ret wz rm 0 0 n ∧ (Cond.instanceMethod y).before args s = true ∧ (Cond.selects C y y).before args s = true) (hK : va_K D cl tys s) (hw : wo_w D cl A H0 (wd S) H locs) (hA : ∀ q, H0.size ≤ q → A q) (q0 : Nat) {ci : Nat} {r0 : vw_C} {fs : List Value} (hc : cl[ci]? = some r0) (hC : r0.1 = C) (he : (wd S)[q0]? = some (b, .inr (ci, fs))) (hn : As.length = n) (hsize : ls.size = nL) (hst : st0 = As.reverse ++ .ref b :: rest) (hrm : (rest.map fun v => v.category).sum ≤ 8) (hdg : decode cc pc = .ok (.invokevirtual index, 3)) (hf : cells + 0 ≤ R.cells ∧ slots + 0 ≤ R.slots)
    (kk : ∀ (S2 : σ) (H1 : Heap) (locs1 : List Loc), post S2 → wo_w D cl A H0 (wd S2) H1 locs1 → W p l e R s m args below meth c H1 locs1 cells slots Q (F0 m (pc + 3) ls (rest))) : W p l e R s m args below meth c H locs cells slots Q (F0 m pc ls st0) := by
  subst hC
  exact wo_cV hw hA (va_runVN (As := As) (rest := rest) X (hM H.size) cw (wo_preV hK hw q0 hc he As) rfl hn hsize hst (lv_room hrm) hdg hf) kk
end Calls2
end
section
/-! worlds side by side: a call that takes its part of the world and leaves the rest -/
theorem fr_l {w1 w2 : va_W} {i : Nat} {q : Nat × va_E} (h : w1[i]? = some q) : (w1 ++ w2)[i]? = some q := by
  have hi : i < w1.length := (List.getElem?_eq_some_iff.mp h).1
  rw [List.getElem?_append_left hi]; exact h
theorem fr_r {w1 w2 : va_W} {i : Nat} {q : Nat × va_E} (h : w2[i]? = some q) : (w1 ++ w2)[w1.length + i]? = some q := by
  rw [List.getElem?_append_right (Nat.le_add_right _ _), Nat.add_sub_cancel_left]; exact h
theorem fr_Pl {D : va_G} {cl : List vw_C} {w1 w2 : va_W} {H : Heap} (h : va_P D cl (w1 ++ w2) H) : va_P D cl w1 H := fun k q hk => h k q (fr_l hk)
theorem fr_Pr {D : va_G} {cl : List vw_C} {w1 w2 : va_W} {H : Heap} (h : va_P D cl (w1 ++ w2) H) : va_P D cl w2 H := fun k q hk => h _ q (fr_r hk)
theorem fr_Dl {A : Nat → Prop} {w1 w2 : va_W} (h : va_D A (w1 ++ w2)) : va_D A w1 := ⟨fun i j p q hi hj e => h.1 i j p q (fr_l hi) (fr_l hj) e, fun k q hk => h.2 k q (fr_l hk)⟩
theorem fr_Dr {A : Nat → Prop} {w1 w2 : va_W} (h : va_D A (w1 ++ w2)) : va_D A w2 := ⟨fun i j p q hi hj e => by
  have := h.1 _ _ p q (fr_r hi) (fr_r hj) e
  omega, fun k q hk => h.2 _ q (fr_r hk)⟩
theorem fr_Dx {A : Nat → Prop} {w1 w2 : va_W} (h : va_D A (w1 ++ w2)) : ∀ (i j : Nat) (p q : Nat × va_E), w1[i]? = some p → w2[j]? = some q → p.1 ≠ q.1 := fun i j p q hi hj e => by
  have h1 := h.1 _ _ p q (fr_l hi) (fr_r hj) e
  have hi : i < w1.length := (List.getElem?_eq_some_iff.mp hi).1
  omega
theorem fr_keep {D : va_G} {cl : List vw_C} {x w : va_W} {H H1 : Heap} (hP : va_P D cl w H) (hx : ∀ (i j : Nat) (p q : Nat × va_E), x[i]? = some p → w[j]? = some q → p.1 ≠ q.1) (hk : ∀ q : Nat, q < H.size → ¬ va_A x H.size q → H1[q]? = H[q]?) : va_P D cl w H1 :=
  hP.kept (fun k q hq => hk q.1 (hP k q hq).lt (fun h => by
    rcases h with ⟨i, e, hi⟩ | h
    · exact hx i k (q.1, e) q hi hq rfl
    · exact absurd (hP k q hq).lt (Nat.not_lt.mpr h)))
theorem fr_apart {A : Nat → Prop} {D : va_G} {cl : List vw_C} {x x2 w : va_W} {H : Heap} (hP : va_P D cl w H) (hx : ∀ (i j : Nat) (p q : Nat × va_E), x[i]? = some p → w[j]? = some q → p.1 ≠ q.1) (h2 : va_D (va_A x H.size) x2) : ∀ (i j : Nat) (p q : Nat × va_E), x2[i]? = some p → w[j]? = some q → p.1 ≠ q.1 := fun i j p q hi hj e => by
  rcases h2.2 i p hi with ⟨k, e9, hk⟩ | h
  · exact hx k j (p.1, e9) q hk hj e
  · rw [e] at h
    exact absurd (hP j q hj).lt (Nat.not_lt.mpr h)
/-- the part x of a world is changed to x2 by a call; what stands ahead of it and behind it stays -/
theorem fr_call {D : va_G} {cl : List vw_C} {A : Nat → Prop} {H0 H H1 : Heap} {locs locs1 : List Loc} {w1 x w2 x2 : va_W} (hw : wo_w D cl A H0 (w1 ++ (x ++ w2)) H locs) (hF : ∀ q, va_A x H.size q → A q) (hP1 : va_P D cl x2 H1) (hD1 : va_D (va_A x H.size) x2) (hk : ∀ q : Nat, q < H.size → ¬ va_A x H.size q → H1[q]? = H[q]?) (hS : va_S A H0 H1 locs1) : wo_w D cl A H0 (w1 ++ (x2 ++ w2)) H1 locs1 := by
  obtain ⟨hP, hD, hS0⟩ := hw
  have hPw := fr_Pl hP
  have hPr := fr_Pr (fr_Pr hP)
  have hDw := fr_Dl hD
  have hDr := fr_Dr (fr_Dr hD)
  have x1 : ∀ (i j : Nat) (p q : Nat × va_E), x[i]? = some p → w1[j]? = some q → p.1 ≠ q.1 := fun i j p q hi hj e => fr_Dx hD j i q p hj (fr_l hi) e.symm
  have x2' : ∀ (i j : Nat) (p q : Nat × va_E), x[i]? = some p → w2[j]? = some q → p.1 ≠ q.1 := fr_Dx (fr_Dr hD)
  have D2 : va_D A x2 := hD1.weaken (fun _ _ _ h => hF _ h)
  have y1 := fr_apart (A := A) hPw x1 hD1
  have y2 := fr_apart (A := A) hPr x2' hD1
  refine ⟨(fr_keep hPw x1 hk).app (hP1.app (fr_keep hPr x2' hk)), hDw.app (D2.app hDr y2) ?_, hS⟩
  intro i j p q hi hj e
  rcases Nat.lt_or_ge j x2.length with h | h
  · rw [List.getElem?_append_left h] at hj
    exact y1 j i q p hj hi e.symm
  · rw [List.getElem?_append_right h] at hj
    have hj2 : (x ++ w2)[x.length + (j - x2.length)]? = some q := fr_r hj
    exact fr_Dx hD i _ p q hi hj2 e
theorem fr_free {D : va_G} {cl : List vw_C} {A : Nat → Prop} {H0 H : Heap} {locs : List Loc} {w1 x w2 : va_W} (hw : wo_w D cl A H0 (w1 ++ (x ++ w2)) H locs) (hA : ∀ q, H0.size ≤ q → A q) : ∀ q, va_A x H.size q → A q := by
  intro q hq
  rcases hq with ⟨k, e, hk⟩ | hq
  · exact (fr_Dl (fr_Dr hw.2.1)).2 k _ hk
  · exact hA q (Nat.le_trans hw.2.2.1 hq)
/-- the part alone -/
theorem fr_part {D : va_G} {cl : List vw_C} {A : Nat → Prop} {H0 H : Heap} {locs : List Loc} {w1 x w2 : va_W} (hw : wo_w D cl A H0 (w1 ++ (x ++ w2)) H locs) : wo_w D cl A H0 x H locs := ⟨fr_Pl (fr_Pr hw.1), fr_Dl (fr_Dr hw.2.1), hw.2.2⟩
end
section
/-! The class's state as two tables (ints, longs) of places and indices; what each method of the class does to it, in the order of the program. Places: 0 the object, 1 people, 2 bounds, 3 rows, 4 queues, 5 splitter; 6 weights, 7 patience, 8 states, 9 tellers; 10 floors, 11 values, 12 ceilings, 13 shares (its lines 14..25); 26 boundOf, 27 sideOf, 28 lenders, 29 borrowers, 30 states, 31 deliveries, 32 amounts, 33 held; 34 lengths, 35 boundOf (36..41), 42 amounts (43..48); 49 weights, 50 parts, 51 rests. -/
abbrev sSt : Type := (Nat → Nat → Int32) × (Nat → Nat → Int64)
def sI (S : sSt) (k j : Nat) (x : Int32) : sSt := (fun q => if q = k then upd (S.1 k) j x else S.1 q, S.2)
def sL (S : sSt) (k j : Nat) (x : Int64) : sSt := (S.1, fun q => if q = k then vp_updL (S.2 k) j x else S.2 q)
theorem sI_2 (S : sSt) (k j : Nat) (x : Int32) : (sI S k j x).2 = S.2 := rfl
theorem sL_1 (S : sSt) (k j : Nat) (x : Int64) : (sL S k j x).1 = S.1 := rfl
theorem sI_1 (S : sSt) (k j : Nat) (x : Int32) (q i : Nat) : (sI S k j x).1 q i = if q = k ∧ i = j then x else S.1 q i := by
  unfold sI upd
  by_cases h : q = k
  · subst h
    by_cases h2 : i = j <;> simp [h2]
  · simp [h]
theorem sL_2 (S : sSt) (k j : Nat) (x : Int64) (q i : Nat) : (sL S k j x).2 q i = if q = k ∧ i = j then x else S.2 q i := by
  unfold sL vp_updL
  by_cases h : q = k
  · subst h
    by_cases h2 : i = j <;> simp [h2]
  · simp [h]
-- people
def h6 (pp : Int32) : Bool := !decide (pp < 0) && !decide (nI 6 ≤ pp)
def wl (S : sSt) (pp : Int32) : Bool := h6 pp && decide (S.1 8 pp.toNatClampNeg = 0)
def wn (S : sSt) (pp : Nat) : Bool := decide (S.1 8 pp = 0)
def bt1 (pp : Nat) : Int32 := nI 1 <<< (nI pp &&& 31)
def tk (S : sSt) (gg pp : Nat) : Bool := decide (S.1 9 gg &&& bt1 pp = 0)
def wm (S : sSt) : Nat → Int32
  | 0 => nI 0
  | n + 1 => if S.1 8 n = 0 then wm S n ||| bt1 n else wm S n
def cr (S : sSt) (gg : Nat) : Bool := decide (S.1 8 gg = nI 1) && (!decide (wm S 6 = 0) && decide (S.1 9 gg &&& wm S 6 = wm S 6))
-- bounds
def hbd (S : sSt) (bb : Int32) : Bool := !decide (bb < 0) && !decide (S.1 2 0 ≤ bb)
def bopen (S : sSt) (nb : Nat) (fl va ce : Int64) : sSt := sI (sL (sL (sL S 10 nb fl) 11 nb va) 12 nb ce) 2 0 (nI (nb + 1))
def setSh (S : sSt) (k : Nat) : Nat → sSt
  | 0 => S
  | n + 1 => sL (setSh S k n) (14 + k) n ((setSh S k n).2 50 n)
def addSh (S : sSt) (k pp : Nat) (vv : Int64) : sSt := sL S (14 + k) pp (S.2 (14 + k) pp + vv)
def mvOk (S : sSt) (bb pp : Nat) (vv : Int64) : Bool := decide ((if 0 < vv then vv else -vv) ≤ (if vv ≤ 0 then S.2 (14 + (bb * 2 + 1)) pp else S.2 (14 + (bb * 2 + 0)) pp))
def mvS (S : sSt) (bb pp : Nat) (vv : Int64) : sSt := sL (addSh (addSh S (bb * 2 + 0) pp (-vv)) (bb * 2 + 1) pp vv) 11 bb ((addSh (addSh S (bb * 2 + 0) pp (-vv)) (bb * 2 + 1) pp vv).2 11 bb - vv)
-- rows
def hrw (S : sSt) (rr : Int32) : Bool := !decide (rr < nI 1) && !decide (S.1 3 0 < rr)
def isOf (S : sSt) (rr bb sd : Nat) : Bool := decide (S.1 26 rr = nI bb) && decide (S.1 27 rr = nI sd)
def ropen (S : sSt) (nr bb sd fr to : Nat) (vv : Int64) : sSt :=
  sL (sL (sI (sI (sI (sI (sI S 3 0 (nI (nr + 1))) 26 (nr + 1) (nI bb)) 27 (nr + 1) (nI sd)) 28 (nr + 1) (nI fr)) 29 (nr + 1) (nI to)) 32 (nr + 1) vv) 33 (nr + 1) vv
def cbk (S : sSt) (bb sd pp : Nat) : Nat → sSt × Int64
  | 0 => (S, 0)
  | n + 1 => if (decide ((cbk S bb sd pp n).1.1 28 (n + 1) = nI pp) || decide ((cbk S bb sd pp n).1.1 29 (n + 1) = nI pp)) && (isOf (cbk S bb sd pp n).1 (n + 1) bb sd && !decide ((cbk S bb sd pp n).1.1 30 (n + 1) = nI 1)) then
      (sL (sI (cbk S bb sd pp n).1 30 (n + 1) (nI 2)) 33 (n + 1) 0, (cbk S bb sd pp n).2 + (cbk S bb sd pp n).1.2 33 (n + 1)) else cbk S bb sd pp n
-- queues
def qapp (S : sSt) (pp k : Nat) (bb : Nat) (vv : Int64) : sSt := sI (sL (sI S (36 + pp) k (nI bb)) (43 + pp) k vv) 34 pp (nI (k + 1))
def qsh (S : sSt) (pp : Nat) : Nat → sSt
  | 0 => S
  | n + 1 => sL (sI (qsh S pp n) (36 + pp) n ((qsh S pp n).1 (36 + pp) (n + 1))) (43 + pp) n ((sI (qsh S pp n) (36 + pp) n ((qsh S pp n).1 (36 + pp) (n + 1))).2 (43 + pp) (n + 1))
def qrem (S : sSt) (pp k : Nat) : sSt := sI (qsh S pp k) 34 pp (nI k)
-- splitter
def sumW (S : sSt) : Nat → Int64
  | 0 => 0
  | n + 1 => sumW S n + S.2 49 n
def gRest (S : sSt) : Nat → Nat
  | 0 => 0
  | n + 1 => if S.2 51 (n + 1) ≤ S.2 51 (gRest S n) then gRest S n else n + 1
theorem gRest_le (S : sSt) : ∀ n, gRest S n ≤ n
  | 0 => Nat.le_refl 0
  | n + 1 => by
    have := gRest_le S n
    unfold gRest
    by_cases h : S.2 51 (n + 1) ≤ S.2 51 (gRest S n)
    · rw [if_pos h]; omega
    · rw [if_neg h]; omega
theorem h6_n {pp : Int32} (h : h6 pp = true) : ∃ n, n < 6 ∧ pp = nI n := by
  rcases pk_ix pp (n := 6) (by decide) with h1 | h1 | h1
  · simp [h6, h1] at h
  · simp [h6, h1] at h
  · exact h1
theorem qsh_34 (S : sSt) (pp : Nat) (hp : pp < 6) : ∀ n, (qsh S pp n).1 34 = S.1 34
  | 0 => rfl
  | n + 1 => by
    have h := qsh_34 S pp hp n
    funext j
    rw [qsh, sL_1, sI_1, if_neg (by omega), h]
theorem cbk_cnt (S : sSt) (bb sd pp : Nat) : ∀ n, (cbk S bb sd pp n).1.1 3 = S.1 3
  | 0 => rfl
  | n + 1 => by
    have h := cbk_cnt S bb sd pp n
    rw [cbk]
    split
    · exact h
    · exact h
end
section
/-- array classes: 0 int, 1 long, 2 boolean, 3 lines of longs, 4 lines of ints -/
def tyl (ca : Nat → ClassId) : List (ClassId × FieldType) := [(ca 0, .int), (ca 1, .long), (ca 2, .boolean), (ca 3, .array .long), (ca 4, .array .int)]
/-- the class's cells -/
def wc (ca : Nat → ClassId) (ad : Nat → Nat) (S : sSt) : va_W := [(ad 0, .inr (5, [.ref (ad 1), .ref (ad 2), .ref (ad 3), .ref (ad 4), .ref (ad 5), .int (S.1 0 5), .int (S.1 0 6)])),
  (ad 1, .inr (1, [.ref (ad 6), .ref (ad 7), .ref (ad 8), .ref (ad 9)])),
  (ad 2, .inr (0, [.int (S.1 2 0), .ref (ad 10), .ref (ad 11), .ref (ad 12), .ref (ad 13)])),
  (ad 3, .inr (3, [.int (S.1 3 0), .ref (ad 26), .ref (ad 27), .ref (ad 28), .ref (ad 29), .ref (ad 30), .ref (ad 31), .ref (ad 32), .ref (ad 33)])),
  (ad 4, .inr (2, [.ref (ad 34), .ref (ad 35), .ref (ad 42)])),
  (ad 5, .inr (4, [.ref (ad 49), .ref (ad 50), .ref (ad 51)])),
  (ad 6, .inl (ca 1, 6, .inr (.inl (S.2 6)))),
  (ad 7, .inl (ca 2, 6, .inl (S.1 7))),
  (ad 8, .inl (ca 0, 6, .inl (S.1 8))),
  (ad 9, .inl (ca 0, 6, .inl (S.1 9))),
  (ad 10, .inl (ca 1, 6, .inr (.inl (S.2 10)))),
  (ad 11, .inl (ca 1, 6, .inr (.inl (S.2 11)))),
  (ad 12, .inl (ca 1, 6, .inr (.inl (S.2 12)))),
  (ad 13, .inl (ca 3, 12, .inr (.inr (.inr (.inr (fun i => if i < 12 then some (ad (14 + i)) else none)))))),
  (ad 14, .inl (ca 1, 6, .inr (.inl (S.2 14)))),
  (ad 15, .inl (ca 1, 6, .inr (.inl (S.2 15)))),
  (ad 16, .inl (ca 1, 6, .inr (.inl (S.2 16)))),
  (ad 17, .inl (ca 1, 6, .inr (.inl (S.2 17)))),
  (ad 18, .inl (ca 1, 6, .inr (.inl (S.2 18)))),
  (ad 19, .inl (ca 1, 6, .inr (.inl (S.2 19)))),
  (ad 20, .inl (ca 1, 6, .inr (.inl (S.2 20)))),
  (ad 21, .inl (ca 1, 6, .inr (.inl (S.2 21)))),
  (ad 22, .inl (ca 1, 6, .inr (.inl (S.2 22)))),
  (ad 23, .inl (ca 1, 6, .inr (.inl (S.2 23)))),
  (ad 24, .inl (ca 1, 6, .inr (.inl (S.2 24)))),
  (ad 25, .inl (ca 1, 6, .inr (.inl (S.2 25)))),
  (ad 26, .inl (ca 0, 201, .inl (S.1 26))),
  (ad 27, .inl (ca 0, 201, .inl (S.1 27))),
  (ad 28, .inl (ca 0, 201, .inl (S.1 28))),
  (ad 29, .inl (ca 0, 201, .inl (S.1 29))),
  (ad 30, .inl (ca 0, 201, .inl (S.1 30))),
  (ad 31, .inl (ca 0, 201, .inl (S.1 31))),
  (ad 32, .inl (ca 1, 201, .inr (.inl (S.2 32)))),
  (ad 33, .inl (ca 1, 201, .inr (.inl (S.2 33)))),
  (ad 34, .inl (ca 0, 6, .inl (S.1 34))),
  (ad 35, .inl (ca 4, 6, .inr (.inr (.inr (.inr (fun i => if i < 6 then some (ad (36 + i)) else none)))))),
  (ad 36, .inl (ca 0, 8, .inl (S.1 36))),
  (ad 37, .inl (ca 0, 8, .inl (S.1 37))),
  (ad 38, .inl (ca 0, 8, .inl (S.1 38))),
  (ad 39, .inl (ca 0, 8, .inl (S.1 39))),
  (ad 40, .inl (ca 0, 8, .inl (S.1 40))),
  (ad 41, .inl (ca 0, 8, .inl (S.1 41))),
  (ad 42, .inl (ca 3, 6, .inr (.inr (.inr (.inr (fun i => if i < 6 then some (ad (43 + i)) else none)))))),
  (ad 43, .inl (ca 1, 8, .inr (.inl (S.2 43)))),
  (ad 44, .inl (ca 1, 8, .inr (.inl (S.2 44)))),
  (ad 45, .inl (ca 1, 8, .inr (.inl (S.2 45)))),
  (ad 46, .inl (ca 1, 8, .inr (.inl (S.2 46)))),
  (ad 47, .inl (ca 1, 8, .inr (.inl (S.2 47)))),
  (ad 48, .inl (ca 1, 8, .inr (.inl (S.2 48)))),
  (ad 49, .inl (ca 1, 6, .inr (.inl (S.2 49)))),
  (ad 50, .inl (ca 1, 6, .inr (.inl (S.2 50)))),
  (ad 51, .inl (ca 1, 6, .inr (.inl (S.2 51))))]
theorem se_6 (ca : Nat → ClassId) (ad : Nat → Nat) (S : sSt) (j : Nat) (x : Int64) : (wc ca ad S).set 6 (ad 6, .inl (ca 1, 6, .inr (.inl (vp_updL (S.2 6) j x)))) = wc ca ad (sL S 6 j x) := rfl
theorem se_10 (ca : Nat → ClassId) (ad : Nat → Nat) (S : sSt) (j : Nat) (x : Int64) : (wc ca ad S).set 10 (ad 10, .inl (ca 1, 6, .inr (.inl (vp_updL (S.2 10) j x)))) = wc ca ad (sL S 10 j x) := rfl
theorem se_11 (ca : Nat → ClassId) (ad : Nat → Nat) (S : sSt) (j : Nat) (x : Int64) : (wc ca ad S).set 11 (ad 11, .inl (ca 1, 6, .inr (.inl (vp_updL (S.2 11) j x)))) = wc ca ad (sL S 11 j x) := rfl
theorem se_12 (ca : Nat → ClassId) (ad : Nat → Nat) (S : sSt) (j : Nat) (x : Int64) : (wc ca ad S).set 12 (ad 12, .inl (ca 1, 6, .inr (.inl (vp_updL (S.2 12) j x)))) = wc ca ad (sL S 12 j x) := rfl
theorem se_49 (ca : Nat → ClassId) (ad : Nat → Nat) (S : sSt) (j : Nat) (x : Int64) : (wc ca ad S).set 49 (ad 49, .inl (ca 1, 6, .inr (.inl (vp_updL (S.2 49) j x)))) = wc ca ad (sL S 49 j x) := rfl
theorem se_50 (ca : Nat → ClassId) (ad : Nat → Nat) (S : sSt) (j : Nat) (x : Int64) : (wc ca ad S).set 50 (ad 50, .inl (ca 1, 6, .inr (.inl (vp_updL (S.2 50) j x)))) = wc ca ad (sL S 50 j x) := rfl
theorem se_51 (ca : Nat → ClassId) (ad : Nat → Nat) (S : sSt) (j : Nat) (x : Int64) : (wc ca ad S).set 51 (ad 51, .inl (ca 1, 6, .inr (.inl (vp_updL (S.2 51) j x)))) = wc ca ad (sL S 51 j x) := rfl
theorem se_7 (ca : Nat → ClassId) (ad : Nat → Nat) (S : sSt) (j : Nat) (x : Int32) : (wc ca ad S).set 7 (ad 7, .inl (ca 2, 6, .inl (upd (S.1 7) j x))) = wc ca ad (sI S 7 j x) := rfl
theorem se_8 (ca : Nat → ClassId) (ad : Nat → Nat) (S : sSt) (j : Nat) (x : Int32) : (wc ca ad S).set 8 (ad 8, .inl (ca 0, 6, .inl (upd (S.1 8) j x))) = wc ca ad (sI S 8 j x) := rfl
theorem se_9 (ca : Nat → ClassId) (ad : Nat → Nat) (S : sSt) (j : Nat) (x : Int32) : (wc ca ad S).set 9 (ad 9, .inl (ca 0, 6, .inl (upd (S.1 9) j x))) = wc ca ad (sI S 9 j x) := rfl
theorem se_34 (ca : Nat → ClassId) (ad : Nat → Nat) (S : sSt) (j : Nat) (x : Int32) : (wc ca ad S).set 34 (ad 34, .inl (ca 0, 6, .inl (upd (S.1 34) j x))) = wc ca ad (sI S 34 j x) := rfl
theorem se_26 (ca : Nat → ClassId) (ad : Nat → Nat) (S : sSt) (j : Nat) (x : Int32) : (wc ca ad S).set 26 (ad 26, .inl (ca 0, 201, .inl (upd (S.1 26) j x))) = wc ca ad (sI S 26 j x) := rfl
theorem se_27 (ca : Nat → ClassId) (ad : Nat → Nat) (S : sSt) (j : Nat) (x : Int32) : (wc ca ad S).set 27 (ad 27, .inl (ca 0, 201, .inl (upd (S.1 27) j x))) = wc ca ad (sI S 27 j x) := rfl
theorem se_28 (ca : Nat → ClassId) (ad : Nat → Nat) (S : sSt) (j : Nat) (x : Int32) : (wc ca ad S).set 28 (ad 28, .inl (ca 0, 201, .inl (upd (S.1 28) j x))) = wc ca ad (sI S 28 j x) := rfl
theorem se_29 (ca : Nat → ClassId) (ad : Nat → Nat) (S : sSt) (j : Nat) (x : Int32) : (wc ca ad S).set 29 (ad 29, .inl (ca 0, 201, .inl (upd (S.1 29) j x))) = wc ca ad (sI S 29 j x) := rfl
theorem se_30 (ca : Nat → ClassId) (ad : Nat → Nat) (S : sSt) (j : Nat) (x : Int32) : (wc ca ad S).set 30 (ad 30, .inl (ca 0, 201, .inl (upd (S.1 30) j x))) = wc ca ad (sI S 30 j x) := rfl
theorem se_31 (ca : Nat → ClassId) (ad : Nat → Nat) (S : sSt) (j : Nat) (x : Int32) : (wc ca ad S).set 31 (ad 31, .inl (ca 0, 201, .inl (upd (S.1 31) j x))) = wc ca ad (sI S 31 j x) := rfl
theorem se_32 (ca : Nat → ClassId) (ad : Nat → Nat) (S : sSt) (j : Nat) (x : Int64) : (wc ca ad S).set 32 (ad 32, .inl (ca 1, 201, .inr (.inl (vp_updL (S.2 32) j x)))) = wc ca ad (sL S 32 j x) := rfl
theorem se_33 (ca : Nat → ClassId) (ad : Nat → Nat) (S : sSt) (j : Nat) (x : Int64) : (wc ca ad S).set 33 (ad 33, .inl (ca 1, 201, .inr (.inl (vp_updL (S.2 33) j x)))) = wc ca ad (sL S 33 j x) := rfl
theorem sf_0_5 (ca : Nat → ClassId) (ad : Nat → Nat) (S : sSt) (x : Int32) : (wc ca ad S).set 0 (ad 0, .inr (5, [.ref (ad 1), .ref (ad 2), .ref (ad 3), .ref (ad 4), .ref (ad 5), .int x, .int (S.1 0 6)])) = wc ca ad (sI S 0 5 x) := rfl
theorem sf_0_6 (ca : Nat → ClassId) (ad : Nat → Nat) (S : sSt) (x : Int32) : (wc ca ad S).set 0 (ad 0, .inr (5, [.ref (ad 1), .ref (ad 2), .ref (ad 3), .ref (ad 4), .ref (ad 5), .int (S.1 0 5), .int x])) = wc ca ad (sI S 0 6 x) := rfl
theorem sf_2_0 (ca : Nat → ClassId) (ad : Nat → Nat) (S : sSt) (x : Int32) : (wc ca ad S).set 2 (ad 2, .inr (0, [.int x, .ref (ad 10), .ref (ad 11), .ref (ad 12), .ref (ad 13)])) = wc ca ad (sI S 2 0 x) := rfl
theorem sf_3_0 (ca : Nat → ClassId) (ad : Nat → Nat) (S : sSt) (x : Int32) : (wc ca ad S).set 3 (ad 3, .inr (3, [.int x, .ref (ad 26), .ref (ad 27), .ref (ad 28), .ref (ad 29), .ref (ad 30), .ref (ad 31), .ref (ad 32), .ref (ad 33)])) = wc ca ad (sI S 3 0 x) := rfl
theorem rw_13 (ca : Nat → ClassId) (ad : Nat → Nat) (S : sSt) (i : Nat) (hi : i < 12) : (wc ca ad S)[14 + i]? = some (ad (14 + i), .inl (ca 1, 6, .inr (.inl (S.2 (14 + i))))) := by
  rcases (show i = 0 ∨ i = 1 ∨ i = 2 ∨ i = 3 ∨ i = 4 ∨ i = 5 ∨ i = 6 ∨ i = 7 ∨ i = 8 ∨ i = 9 ∨ i = 10 ∨ i = 11 by omega) with rfl | rfl | rfl | rfl | rfl | rfl | rfl | rfl | rfl | rfl | rfl | rfl <;> rfl
theorem se_13 (ca : Nat → ClassId) (ad : Nat → Nat) (S : sSt) (i : Nat) (hi : i < 12) (j : Nat) (x : Int64) : (wc ca ad S).set (14 + i) (ad (14 + i), .inl (ca 1, 6, .inr (.inl (vp_updL (S.2 (14 + i)) j x)))) = wc ca ad (sL S (14 + i) j x) := by
  rcases (show i = 0 ∨ i = 1 ∨ i = 2 ∨ i = 3 ∨ i = 4 ∨ i = 5 ∨ i = 6 ∨ i = 7 ∨ i = 8 ∨ i = 9 ∨ i = 10 ∨ i = 11 by omega) with rfl | rfl | rfl | rfl | rfl | rfl | rfl | rfl | rfl | rfl | rfl | rfl <;> rfl
theorem rw_35 (ca : Nat → ClassId) (ad : Nat → Nat) (S : sSt) (i : Nat) (hi : i < 6) : (wc ca ad S)[36 + i]? = some (ad (36 + i), .inl (ca 0, 8, .inl (S.1 (36 + i)))) := by
  rcases (show i = 0 ∨ i = 1 ∨ i = 2 ∨ i = 3 ∨ i = 4 ∨ i = 5 by omega) with rfl | rfl | rfl | rfl | rfl | rfl <;> rfl
theorem se_35 (ca : Nat → ClassId) (ad : Nat → Nat) (S : sSt) (i : Nat) (hi : i < 6) (j : Nat) (x : Int32) : (wc ca ad S).set (36 + i) (ad (36 + i), .inl (ca 0, 8, .inl (upd (S.1 (36 + i)) j x))) = wc ca ad (sI S (36 + i) j x) := by
  rcases (show i = 0 ∨ i = 1 ∨ i = 2 ∨ i = 3 ∨ i = 4 ∨ i = 5 by omega) with rfl | rfl | rfl | rfl | rfl | rfl <;> rfl
theorem rw_42 (ca : Nat → ClassId) (ad : Nat → Nat) (S : sSt) (i : Nat) (hi : i < 6) : (wc ca ad S)[43 + i]? = some (ad (43 + i), .inl (ca 1, 8, .inr (.inl (S.2 (43 + i))))) := by
  rcases (show i = 0 ∨ i = 1 ∨ i = 2 ∨ i = 3 ∨ i = 4 ∨ i = 5 by omega) with rfl | rfl | rfl | rfl | rfl | rfl <;> rfl
theorem se_42 (ca : Nat → ClassId) (ad : Nat → Nat) (S : sSt) (i : Nat) (hi : i < 6) (j : Nat) (x : Int64) : (wc ca ad S).set (43 + i) (ad (43 + i), .inl (ca 1, 8, .inr (.inl (vp_updL (S.2 (43 + i)) j x)))) = wc ca ad (sL S (43 + i) j x) := by
  rcases (show i = 0 ∨ i = 1 ∨ i = 2 ∨ i = 3 ∨ i = 4 ∨ i = 5 by omega) with rfl | rfl | rfl | rfl | rfl | rfl <;> rfl
end
section
/-! split, receive, recover and the rest of the class, as the program does them -/
def flL (S : sSt) (vv : Int64) : Nat → sSt
  | 0 => S
  | n + 1 => sL (flL S vv n) 50 n vv
def spl1 (S : sSt) (room all : Int64) : Nat → sSt × Int64
  | 0 => (S, room)
  | n + 1 => (sL (sL (spl1 S room all n).1 50 n (room * (spl1 S room all n).1.2 49 n / all)) 51 n (room * (spl1 S room all n).1.2 49 n - room * (spl1 S room all n).1.2 49 n / all * all),
      (spl1 S room all n).2 - (sL (sL (spl1 S room all n).1 50 n (room * (spl1 S room all n).1.2 49 n / all)) 51 n (room * (spl1 S room all n).1.2 49 n - room * (spl1 S room all n).1.2 49 n / all * all)).2 50 n)
def sp2 (X : sSt × Int64) : sSt × Int64 := (sL (sL X.1 50 (gRest X.1 5) (X.1.2 50 (gRest X.1 5) + 1)) 51 (gRest X.1 5) (-1), X.2 - 1)
def spl2 : Nat → sSt × Int64 → sSt × Int64
  | 0, X => X
  | n + 1, X => if X.2 ≤ 0 then X else spl2 n (sp2 X)
def splF (S : sSt) (room : Int64) : sSt := if 0 < sumW S 6 then (spl2 6 (spl1 S room (sumW S 6) 6)).1 else flL S 0 6
theorem spl2_step {i : Nat} {X t : sSt × Int64} (h : spl2 (6 - i) X = t) (hi : i < 6) (hc : ¬ X.2 ≤ 0) : spl2 (6 - (i + 1)) (sp2 X) = t := by
  have e : 6 - i = (6 - (i + 1)) + 1 := by omega
  rw [e, spl2, if_neg hc] at h
  exact h
theorem spl2_stop {n : Nat} {X t : sSt × Int64} (h : spl2 n X = t) (hc : X.2 ≤ 0) : X = t := by
  cases n with
  | zero => exact h
  | succ n => rw [spl2, if_pos hc] at h; exact h
theorem spl2_end {i : Nat} {X t : sSt × Int64} (h : spl2 (6 - i) X = t) (hi : 6 ≤ i) : X = t := by
  have e : 6 - i = 0 := by omega
  rw [e] at h; exact h
-- numbers and sides
def rmOk (dd : Int64) : Bool := !decide (dd < 0) && !decide (1000000000000 < dd)
def ordOk (fl va ce : Int64) : Bool := !decide (va < fl) && (!decide (ce < va) && (rmOk (va - fl) && rmOk (ce - va)))
def sdOk (sd : Int32) : Bool := decide (sd = 0) || decide (sd = nI 1)
def caf (S : sSt) (bb sd pp : Int32) (vv : Int64) : Bool := hbd S bb && (sdOk sd && (wl S pp && !decide (vv < 1)))
def rich (S : sSt) (k pp : Nat) : Nat → Int32 × Int64
  | 0 => ((-1), 0)
  | n + 1 => if n = pp then rich S k pp n else if wl S (nI n) = false then rich S k pp n else if S.2 (14 + k) n ≤ (rich S k pp n).2 then rich S k pp n else (nI n, S.2 (14 + k) n)
def sendS (S : sSt) (nr bb sd fr to : Nat) (vv : Int64) : sSt := if nr < 200 then ropen (addSh S (bb * 2 + sd) fr (-vv)) nr bb sd fr to vv else S
-- queues
def gfB (S : sSt) (pp : Nat) : Nat := (S.1 (36 + pp) 0).toNatClampNeg
def gfOk (S : sSt) (pp : Nat) : Bool := !decide (S.1 34 pp = 0) && mvOk S (gfB S pp) pp (S.2 (43 + pp) 0)
def gfS (S : sSt) (pp : Nat) : sSt := qrem (mvS S (gfB S pp) pp (S.2 (43 + pp) 0)) pp ((S.1 34 pp).toNatClampNeg - 1)
def dnS (S : sSt) : sSt := sI S 0 5 (S.1 0 5 + nI 1)
def rcvL (pp : Nat) : Nat → sSt → sSt
  | 0, S => S
  | n + 1, S => if gfOk S pp = true then rcvL pp n (dnS (gfS S pp)) else S
def rcvF (S : sSt) (bb sd pp : Nat) (vv : Int64) : sSt := if 0 < vv then rcvL pp 8 (addSh S (bb * 2 + sd) pp vv) else S
/-- a queue that is in order -/
def QW (S : sSt) (pp : Nat) : Prop := ∃ k, k ≤ 8 ∧ S.1 34 pp = nI k ∧ ∀ j, j < k → ∃ b, b < 6 ∧ S.1 (36 + pp) j = nI b
theorem mvS_1 (S : sSt) (bb pp : Nat) (vv : Int64) : (mvS S bb pp vv).1 = S.1 := rfl
theorem addSh_1 (S : sSt) (k pp : Nat) (vv : Int64) : (addSh S k pp vv).1 = S.1 := rfl
theorem qsh_2 (S : sSt) (pp : Nat) : ∀ n q, q ≠ 36 + pp → (qsh S pp n).1 q = S.1 q
  | 0, _, _ => rfl
  | n + 1, q, h => by
    funext j
    rw [qsh, sL_1, sI_1, if_neg (fun e => h e.1), qsh_2 S pp n q h]
theorem qsh_b (S : sSt) (pp : Nat) : ∀ n j, (qsh S pp n).1 (36 + pp) j = if j < n then S.1 (36 + pp) (j + 1) else S.1 (36 + pp) j
  | 0, j => by simp [qsh]
  | n + 1, j => by
    rw [qsh, sL_1, sI_1, qsh_b S pp n (n + 1), if_neg (show ¬ (n + 1 < n) by omega)]
    by_cases h : j = n
    · subst h
      rw [if_pos ⟨rfl, rfl⟩, if_pos (by omega)]
    · rw [if_neg (fun e => h e.2), qsh_b S pp n j]
      by_cases h2 : j < n
      · rw [if_pos h2, if_pos (by omega)]
      · rw [if_neg h2, if_neg (by omega)]
theorem QW_mv {S : sSt} {pp bb q : Nat} {vv : Int64} (h : QW S q) : QW (mvS S bb pp vv) q := h
theorem QW_add {S : sSt} {pp k q : Nat} {vv : Int64} (h : QW S q) : QW (addSh S k pp vv) q := h
theorem QW_dn {S : sSt} {q : Nat} (hq : q < 6) (h : QW S q) : QW (dnS S) q := by
  obtain ⟨k, h1, h2, h3⟩ := h
  refine ⟨k, h1, ?_, fun j hj => ?_⟩
  · rw [dnS, sI_1, if_neg (by omega)]; exact h2
  · rw [dnS, sI_1, if_neg (by omega)]; exact h3 j hj
theorem QW_rem {S : sSt} {pp k q : Nat} (hp : pp < 6) (hq : q < 6) (h : QW S q) (hk : S.1 34 pp = nI (k + 1)) (hk8 : k ≤ 7) : QW (qrem S pp k) q := by
  obtain ⟨m, h1, h2, h3⟩ := h
  by_cases e : q = pp
  · subst e
    have hm : m = k + 1 := by
      rw [hk] at h2
      exact ((nI_eq (by omega) (by omega)).mp h2).symm
    subst hm
    refine ⟨k, by omega, ?_, fun j hj => ?_⟩
    · rw [qrem, sI_1, if_pos ⟨rfl, rfl⟩]
    · rw [qrem, sI_1, if_neg (by omega), qsh_b, if_pos hj]
      exact h3 (j + 1) (by omega)
  · refine ⟨m, h1, ?_, fun j hj => ?_⟩
    · rw [qrem, sI_1, if_neg (by omega), qsh_2 S pp k 34 (by omega)]; exact h2
    · rw [qrem, sI_1, if_neg (by omega), qsh_2 S pp k (36 + q) (by omega)]; exact h3 j hj
/-- what goFirst finds: a queue with k + 1 in it, the first one's bound -/
theorem QW_first {S : sSt} {pp : Nat} (h : QW S pp) (hn : ¬ S.1 34 pp = 0) : ∃ k b, k ≤ 7 ∧ b < 6 ∧ S.1 34 pp = nI (k + 1) ∧ S.1 (36 + pp) 0 = nI b := by
  obtain ⟨k, h1, h2, h3⟩ := h
  cases k with
  | zero => exact absurd h2 hn
  | succ k =>
    obtain ⟨b, hb, e⟩ := h3 0 (by omega)
    exact ⟨k, b, by omega, hb, h2, e⟩
theorem gfS_eq {S : sSt} {pp k b : Nat} (h1 : S.1 34 pp = nI (k + 1)) (hk : k ≤ 7) (h2 : S.1 (36 + pp) 0 = nI b) (hb : b < 6) : gfS S pp = qrem (mvS S b pp (S.2 (43 + pp) 0)) pp k ∧ gfB S pp = b := by
  have e2 : gfB S pp = b := by rw [gfB, h2, nI_clamp (by omega)]
  refine ⟨?_, e2⟩
  rw [gfS, e2, h1, nI_clamp (by omega)]
  rfl
theorem QW_gf {S : sSt} {pp q : Nat} (hp : pp < 6) (hq : q < 6) (h : QW S q) (hpq : QW S pp) (ho : gfOk S pp = true) : QW (gfS S pp) q := by
  have hn : ¬ S.1 34 pp = 0 := fun e => by simp [gfOk, e] at ho
  obtain ⟨k, b, hk, hb, e1, e2⟩ := QW_first hpq hn
  rw [(gfS_eq e1 hk e2 hb).1]
  exact QW_rem hp hq (QW_mv h) e1 hk
theorem rcvL_step {i pp : Nat} {X t : sSt} (h : rcvL pp (8 - i) X = t) (hi : i < 8) (hc : gfOk X pp = true) : rcvL pp (8 - (i + 1)) (dnS (gfS X pp)) = t := by
  have e : 8 - i = (8 - (i + 1)) + 1 := by omega
  rw [e, rcvL, if_pos hc] at h
  exact h
theorem rcvL_stop {n pp : Nat} {X t : sSt} (h : rcvL pp n X = t) (hc : gfOk X pp = false) : X = t := by
  cases n with
  | zero => exact h
  | succ n => rw [rcvL, if_neg (by rw [hc]; decide)] at h; exact h
theorem rcvL_end {i pp : Nat} {X t : sSt} (h : rcvL pp (8 - i) X = t) (hi : 8 ≤ i) : X = t := by
  have e : 8 - i = 0 := by omega
  rw [e] at h; exact h
end
section
/-! weights, sums, recover -/
def uow (S : sSt) : Nat → sSt
  | 0 => S
  | n + 1 => sL (uow S n) 49 n (if wl (uow S n) (nI n) = false then 0 else (uow S n).2 6 n)
def uew (S : sSt) : Nat → sSt
  | 0 => S
  | n + 1 => sL (uew S n) 49 n (if wl (uew S n) (nI n) = false then 0 else 1)
def shT (S : sSt) (k : Nat) (b : Bool) : Nat → Int64
  | 0 => 0
  | n + 1 => if wl S (nI n) = b then shT S k b n + S.2 (14 + k) n else shT S k b n
def stk (S : sSt) (rr : Nat) : Bool := decide (S.1 30 rr = nI 2) || !wl S (S.1 29 rr)
def hbr (S : sSt) (bb sd : Nat) (b : Bool) : Nat → Int64
  | 0 => 0
  | n + 1 => if isOf S (n + 1) bb sd = false then hbr S bb sd b n else if stk S (n + 1) = b then hbr S bb sd b n + S.2 33 (n + 1) else hbr S bb sd b n
/-- the people's parts are handed out -/
def rcvP (bb sd : Nat) (S : sSt) : Nat → sSt
  | 0 => S
  | n + 1 => rcvF (rcvP bb sd S n) bb sd n ((rcvP bb sd S n).2 50 n)
def rec1 (S : sSt) (gg nr bb sd : Nat) : sSt :=
  rcvP bb sd (splF (cbk (addSh S (bb * 2 + sd) gg (-S.2 (14 + (bb * 2 + sd)) gg)) bb sd gg nr).1 (S.2 (14 + (bb * 2 + sd)) gg + (cbk (addSh S (bb * 2 + sd) gg (-S.2 (14 + (bb * 2 + sd)) gg)) bb sd gg nr).2)) 6
def recS (gg nr bb : Nat) (S : sSt) : Nat → sSt
  | 0 => S
  | n + 1 => rec1 (recS gg nr bb S n) gg nr bb n
def recB (gg nr : Nat) (S : sSt) : Nat → sSt
  | 0 => S
  | n + 1 => recS gg nr n (recB gg nr S n) 2
def recF (S : sSt) (gg nb nr : Nat) : sSt := recB gg nr (uew (sI S 8 gg (nI 2)) 6) nb
theorem bI_eq {a b : Bool} : bI a = bI b ↔ a = b := by
  cases a <;> cases b <;> decide
/-- what recover needs of a state: queues in order, the counts -/
def QA (S : sSt) : Prop := ∀ q, q < 6 → QW S q
def RI (nb nr : Nat) (S : sSt) : Prop := QA S ∧ S.1 2 0 = nI nb ∧ S.1 3 0 = nI nr
theorem uew_1 (S : sSt) : ∀ n, (uew S n).1 = S.1
  | 0 => rfl
  | n + 1 => uew_1 S n
theorem uow_1 (S : sSt) : ∀ n, (uow S n).1 = S.1
  | 0 => rfl
  | n + 1 => uow_1 S n
theorem flL_1 (S : sSt) (v : Int64) : ∀ n, (flL S v n).1 = S.1
  | 0 => rfl
  | n + 1 => flL_1 S v n
theorem spl1_1 (S : sSt) (r a : Int64) : ∀ n, (spl1 S r a n).1.1 = S.1
  | 0 => rfl
  | n + 1 => spl1_1 S r a n
theorem spl2_1 : ∀ n (X : sSt × Int64), (spl2 n X).1.1 = X.1.1
  | 0, _ => rfl
  | n + 1, X => by
    rw [spl2]
    split
    · rfl
    · rw [spl2_1 n]; rfl
theorem splF_1 (S : sSt) (r : Int64) : (splF S r).1 = S.1 := by
  unfold splF
  split
  · rw [spl2_1, spl1_1]
  · rw [flL_1]
theorem cbk_1 (S : sSt) (bb sd pp : Nat) : ∀ n q, q ≠ 30 → (cbk S bb sd pp n).1.1 q = S.1 q
  | 0, _, _ => rfl
  | n + 1, q, h => by
    have ih := cbk_1 S bb sd pp n q h
    rw [cbk]
    split
    · funext j
      show (sI (cbk S bb sd pp n).1 30 (n + 1) (nI 2)).1 q j = _
      rw [sI_1, if_neg (fun e => h e.1), ih]
    · exact ih
theorem RI_of {nb nr : Nat} {S T : sSt} (h : RI nb nr S) (h34 : T.1 34 = S.1 34) (h36 : ∀ q, q < 6 → T.1 (36 + q) = S.1 (36 + q)) (h2 : T.1 2 = S.1 2) (h3 : T.1 3 = S.1 3) : RI nb nr T := by
  obtain ⟨a, b, c⟩ := h
  refine ⟨fun q hq => ?_, by rw [h2]; exact b, by rw [h3]; exact c⟩
  obtain ⟨k, k1, k2, k3⟩ := a q hq
  exact ⟨k, k1, by rw [h34]; exact k2, fun j hj => by rw [h36 q hq]; exact k3 j hj⟩
theorem RI_eq {nb nr : Nat} {S T : sSt} (h : RI nb nr S) (e : T.1 = S.1) : RI nb nr T := RI_of h (by rw [e]) (fun _ _ => by rw [e]) (by rw [e]) (by rw [e])
theorem RI_gf {nb nr pp : Nat} {S : sSt} (hp : pp < 6) (h : RI nb nr S) (ho : gfOk S pp = true) : RI nb nr (gfS S pp) := by
  obtain ⟨a, b, c⟩ := h
  have hn : ¬ S.1 34 pp = 0 := fun e => by simp [gfOk, e] at ho
  obtain ⟨k, bb, hk, hb, e1, e2⟩ := QW_first (a pp hp) hn
  refine ⟨fun q hq => QW_gf hp hq (a q hq) (a pp hp) ho, ?_, ?_⟩
  · rw [(gfS_eq e1 hk e2 hb).1, qrem, sI_1, if_neg (by omega), qsh_2 _ pp k 2 (by omega)]; exact b
  · rw [(gfS_eq e1 hk e2 hb).1, qrem, sI_1, if_neg (by omega), qsh_2 _ pp k 3 (by omega)]; exact c
theorem RI_dn {nb nr : Nat} {S : sSt} (h : RI nb nr S) : RI nb nr (dnS S) := by
  obtain ⟨a, b, c⟩ := h
  refine ⟨fun q hq => QW_dn hq (a q hq), ?_, ?_⟩
  · rw [dnS, sI_1, if_neg (by omega)]; exact b
  · rw [dnS, sI_1, if_neg (by omega)]; exact c
theorem RI_rcvL {nb nr pp : Nat} (hp : pp < 6) : ∀ n (S : sSt), RI nb nr S → RI nb nr (rcvL pp n S)
  | 0, _, h => h
  | n + 1, S, h => by
    rw [rcvL]
    split
    · exact RI_rcvL hp n _ (RI_dn (RI_gf hp h ‹_›))
    · exact h
theorem RI_rcvF {nb nr bb sd pp : Nat} {vv : Int64} {S : sSt} (hp : pp < 6) (h : RI nb nr S) : RI nb nr (rcvF S bb sd pp vv) := by
  unfold rcvF
  split
  · exact RI_rcvL hp 8 _ (RI_eq h rfl)
  · exact h
theorem RI_rcvP {nb nr bb sd : Nat} {S : sSt} (h : RI nb nr S) : ∀ n, n ≤ 6 → RI nb nr (rcvP bb sd S n)
  | 0, _ => h
  | n + 1, hn => by
    rw [rcvP]
    exact RI_rcvF (by omega) (RI_rcvP h n (by omega))
theorem RI_cbk {nb nr bb sd pp n : Nat} {S : sSt} (h : RI nb nr S) : RI nb nr (cbk S bb sd pp n).1 :=
  RI_of h (cbk_1 S bb sd pp n 34 (by omega)) (fun q _ => cbk_1 S bb sd pp n (36 + q) (by omega)) (cbk_1 S bb sd pp n 2 (by omega)) (cbk_1 S bb sd pp n 3 (by omega))
theorem RI_rec1 {nb nr gg n bb sd : Nat} {S : sSt} (h : RI nb nr S) : RI nb nr (rec1 S gg n bb sd) := by
  unfold rec1
  refine RI_rcvP (bb := bb) (sd := sd) ?_ 6 (Nat.le_refl 6)
  have h1 : RI nb nr (addSh S (bb * 2 + sd) gg (-S.2 (14 + (bb * 2 + sd)) gg)) := RI_eq h (addSh_1 _ _ _ _)
  have h2 := RI_cbk (bb := bb) (sd := sd) (pp := gg) (n := n) h1
  exact RI_eq h2 (splF_1 _ _)
theorem RI_recS {nb nr gg n bb : Nat} {S : sSt} (h : RI nb nr S) : ∀ k, RI nb nr (recS gg n bb S k)
  | 0 => h
  | k + 1 => by
    rw [recS]
    exact RI_rec1 (RI_recS h k)
theorem RI_recB {nb nr gg n : Nat} {S : sSt} (h : RI nb nr S) : ∀ k, RI nb nr (recB gg n S k)
  | 0 => h
  | k + 1 => by
    rw [recB]
    exact RI_recS (RI_recB h k) 2
end
section
/-! the public methods of the class that don't throw -/
theorem wl_n {S : sSt} {pp : Int32} (h : wl S pp = true) : ∃ n, n < 6 ∧ pp = nI n := by
  unfold wl at h
  rw [Bool.and_eq_true] at h
  exact h6_n h.1
theorem hbd_n {S : sSt} {bb : Int32} {nb : Nat} (hc : S.1 2 0 = nI nb) (hb : nb ≤ 6) (h : hbd S bb = true) : ∃ n, n < nb ∧ bb = nI n := by
  rcases pk_ix bb (n := nb) (by omega) with h1 | h1 | h1
  · simp [hbd, h1] at h
  · simp [hbd, hc, h1] at h
  · exact h1
theorem hrw_n {S : sSt} {rr : Int32} {nr : Nat} (hc : S.1 3 0 = nI nr) (hb : nr ≤ 200) (h : hrw S rr = true) : ∃ n, 1 ≤ n ∧ n ≤ nr ∧ rr = nI n := by
  unfold hrw at h
  rw [hc, Bool.and_eq_true, Bool.not_eq_true', Bool.not_eq_true', decide_eq_false_iff_not, decide_eq_false_iff_not] at h
  have h0 : ¬ rr < 0 := fun q => h.1 (by
    rw [Int32.lt_iff_toInt_lt] at q ⊢
    rw [nI_toInt (by omega)]
    rw [Int32.toInt_zero] at q
    omega)
  obtain ⟨j, hj, e⟩ := nI_of h0
  subst e
  refine ⟨j, ?_, ?_, rfl⟩
  · exact Nat.not_lt.mp (fun q => h.1 ((nI_ltI (by omega) (by omega)).mpr q))
  · exact Nat.not_lt.mp (fun q => h.2 ((nI_ltI (by omega) (by omega)).mpr q))
theorem sdOk_n {sd : Int32} (h : sdOk sd = true) : ∃ n, n < 2 ∧ sd = nI n := by
  unfold sdOk at h
  rw [Bool.or_eq_true, decide_eq_true_iff, decide_eq_true_iff] at h
  rcases h with h | h
  · exact ⟨0, by omega, h⟩
  · exact ⟨1, by omega, h⟩
theorem caf_n {S : sSt} {bb sd pp : Int32} {vv : Int64} {nb : Nat} (hc : S.1 2 0 = nI nb) (hb : nb ≤ 6) (h : caf S bb sd pp vv = true) : ∃ b s p, b < nb ∧ s < 2 ∧ p < 6 ∧ bb = nI b ∧ sd = nI s ∧ pp = nI p := by
  unfold caf at h
  rw [Bool.and_eq_true, Bool.and_eq_true, Bool.and_eq_true] at h
  obtain ⟨b, hb, e1⟩ := hbd_n hc hb h.1
  obtain ⟨s, hs, e2⟩ := sdOk_n h.2.1
  obtain ⟨p, hp, e3⟩ := wl_n h.2.2.1
  exact ⟨b, s, p, hb, hs, hp, e1, e2, e3⟩
theorem nI_20 : ¬ nI 2 = 0 := by decide
theorem nb_v (b : Bool) : vp_nar .boolean (bI b) = bI b := by
  cases b <;> decide
def wgOk (S : sSt) (pp : Int32) (ww : Int64) : Bool := wl S pp && (!decide (ww < 0) && decide (ww ≤ 1000000))
def ptOk (S : sSt) (pp : Int32) (b0 : Bool) : Bool := wl S pp && !decide (S.1 7 pp.toNatClampNeg = bI b0)
def rfS (S : sSt) : sSt := sI S 0 6 (S.1 0 6 + nI 1)
def tkG (S : sSt) (bb pp : Int32) (vv : Int64) : Bool := hbd S bb && (wl S pp && (!decide (vv = 0) && (!decide (vv < (-1000000000000)) && decide (vv ≤ 1000000000000))))
def tkR (S : sSt) (bb pp kq : Nat) (vv : Int64) : Int32 × sSt := if mvOk S bb pp vv = true then (nI 1, dnS (mvS S bb pp vv)) else if S.1 7 pp = 0 then (nI 0, rfS S) else if kq < 8 then (nI 2, qapp S pp kq bb vv) else (nI 0, rfS S)
def tkF (S : sSt) (bb pp : Int32) (vv : Int64) : Int32 × sSt := if tkG S bb pp vv = true then tkR S bb.toNatClampNeg pp.toNatClampNeg (S.1 34 pp.toNatClampNeg).toNatClampNeg vv else ((-1), S)
def sdR (S : sSt) (nr bb sd fr to : Nat) (vv : Int64) : Int32 × sSt := ((if nr < 200 then nI (nr + 1) else nI 0), sendS S nr bb sd fr to vv)
def ldF (S : sSt) (nr : Nat) (bb sd fr to : Int32) (vv : Int64) : Int32 × sSt := if (caf S bb sd to vv && (wl S fr && !decide (fr = to))) = true then
  (if vv ≤ S.2 (14 + (bb.toNatClampNeg * 2 + sd.toNatClampNeg)) fr.toNatClampNeg then sdR S nr bb.toNatClampNeg sd.toNatClampNeg fr.toNatClampNeg to.toNatClampNeg vv else (nI 0, S)) else ((-1), S)
def akR (S : sSt) (nr bb sd pp : Nat) (vv : Int64) (q : Int32) : Int32 × sSt := if q = (-1) then (nI 0, S) else sdR S nr bb sd q.toNatClampNeg pp (if S.2 (14 + (bb * 2 + sd)) q.toNatClampNeg < vv then S.2 (14 + (bb * 2 + sd)) q.toNatClampNeg else vv)
def akF (S : sSt) (nr : Nat) (bb sd pp : Int32) (vv : Int64) : Int32 × sSt := if caf S bb sd pp vv = true then akR S nr bb.toNatClampNeg sd.toNatClampNeg pp.toNatClampNeg vv (rich S (bb.toNatClampNeg * 2 + sd.toNatClampNeg) pp.toNatClampNeg 6).1 else ((-1), S)
theorem rich_n (S : sSt) (k pp : Nat) : ∀ n, (rich S k pp n).1 = (-1) ∨ ∃ q, q < n ∧ (rich S k pp n).1 = nI q
  | 0 => Or.inl rfl
  | n + 1 => by
    have ih := rich_n S k pp n
    have ih2 : (rich S k pp n).1 = (-1) ∨ ∃ q, q < n + 1 ∧ (rich S k pp n).1 = nI q := by
      rcases ih with h | ⟨q, hq, h⟩
      · exact Or.inl h
      · exact Or.inr ⟨q, by omega, h⟩
    rw [rich]
    split
    · exact ih2
    · split
      · exact ih2
      · split
        · exact ih2
        · exact Or.inr ⟨n, by omega, rfl⟩
/-- rows in order -/
def RW (nb nr : Nat) (S : sSt) : Prop := ∀ r, 1 ≤ r → r ≤ nr → ∃ b s f t, b < nb ∧ s < 2 ∧ f < 6 ∧ t < 6 ∧ S.1 26 r = nI b ∧ S.1 27 r = nI s ∧ S.1 28 r = nI f ∧ S.1 29 r = nI t
def dlR (S : sSt) (r b s t : Nat) : Int32 × sSt := if (sI S 31 r (S.1 31 r + nI 1)).1 30 r = nI 1 then (nI 0, sI S 31 r (S.1 31 r + nI 1)) else
  (nI 1, rcvF (sL (sI (sI S 31 r (S.1 31 r + nI 1)) 30 r (nI 1)) 33 r 0) b s t ((sI (sI S 31 r (S.1 31 r + nI 1)) 30 r (nI 1)).2 33 r))
def dlF (S : sSt) (rr : Int32) : Int32 × sSt := if (hrw S rr && !decide (S.1 30 rr.toNatClampNeg = nI 2)) = true then
  dlR S rr.toNatClampNeg (S.1 26 rr.toNatClampNeg).toNatClampNeg (S.1 27 rr.toNatClampNeg).toNatClampNeg (S.1 29 rr.toNatClampNeg).toNatClampNeg else ((-1), S)
def lsOk (S : sSt) (rr : Int32) : Bool := hrw S rr && decide (S.1 30 rr.toNatClampNeg = 0)
def enL (nb nr : Nat) (S : sSt) : Nat → sSt
  | 0 => S
  | n + 1 => if cr (enL nb nr S n) n = true then recF (enL nb nr S n) n nb nr else enL nb nr S n
def enF (S : sSt) (nb nr : Nat) (pp : Int32) : sSt := if wl S pp = true then enL nb nr (sI (sI S 8 pp.toNatClampNeg (nI 1)) 34 pp.toNatClampNeg (nI 0)) 6 else S
def vcG (S : sSt) (pp ee : Int32) : Bool := wl S pp && (h6 ee && !decide (S.1 8 ee.toNatClampNeg = 0))
def vcT (S : sSt) (p e : Nat) : sSt := sI S 9 e (S.1 9 e ||| bt1 p)
def vcR (S : sSt) (nb nr p e : Nat) : Int32 × sSt := if S.1 8 e = nI 2 then (nI 0, S) else if tk S e p = true then (if cr (vcT S p e) e = true then (nI 2, recF (vcT S p e) e nb nr) else (nI 1, vcT S p e)) else (nI 0, S)
def vcF (S : sSt) (nb nr : Nat) (pp ee : Int32) : Int32 × sSt := if vcG S pp ee = true then vcR S nb nr pp.toNatClampNeg ee.toNatClampNeg else ((-1), S)
def rwV (S : sSt) (r : Nat) (wh : Int32) : Int32 := if wh = nI 0 then S.1 26 r else if wh = nI 1 then S.1 27 r else if wh = nI 2 then S.1 28 r else if wh = nI 3 then S.1 29 r else if wh = nI 4 then S.1 30 r else if wh = nI 5 then S.1 31 r else (-1)
def rwF (S : sSt) (rr wh : Int32) : Int32 := if hrw S rr = true then rwV S rr.toNatClampNeg wh else (-1)
def ttF (S : sSt) (wh : Int32) : Int32 := if wh = nI 0 then S.1 2 0 else if wh = nI 1 then S.1 3 0 else if wh = nI 2 then S.1 0 5 else if wh = nI 3 then S.1 0 6 else (-1)
def bc1 (x : Int32) : Int32 := x - ((x.toUInt32 >>> ((nI 1).toUInt32 &&& Int32.toUInt32 31)).toInt32 &&& 1431655765)
def bc2 (x : Int32) : Int32 := (x &&& 858993459) + ((x.toUInt32 >>> ((nI 2).toUInt32 &&& Int32.toUInt32 31)).toInt32 &&& 858993459)
def bc3 (x : Int32) : Int32 := (x + (x.toUInt32 >>> ((nI 4).toUInt32 &&& Int32.toUInt32 31)).toInt32) &&& 252645135
def bc4 (x : Int32) : Int32 := x + (x.toUInt32 >>> ((nI 8).toUInt32 &&& Int32.toUInt32 31)).toInt32
def bc5 (x : Int32) : Int32 := x + (x.toUInt32 >>> ((nI 16).toUInt32 &&& Int32.toUInt32 31)).toInt32
def bcF (x : Int32) : Int32 := bc5 (bc4 (bc3 (bc2 (bc1 x)))) &&& nI 63
def psV (S : sSt) (p : Nat) (wh : Int32) : Int32 := if wh = nI 0 then S.1 8 p else if wh = nI 1 then (if S.1 7 p = 0 then nI 0 else nI 1) else if wh = nI 2 then S.1 34 p else if wh = nI 3 then bcF (S.1 9 p) else (-1)
def psF (S : sSt) (pp wh : Int32) : Int32 := if h6 pp = true then psV S pp.toNatClampNeg wh else (-1)
theorem RI_recF {nb nr gg : Nat} {S : sSt} (h : RI nb nr S) : RI nb nr (recF S gg nb nr) := by
  unfold recF
  exact RI_recB (RI_eq (RI_of (T := sI S 8 gg (nI 2)) h rfl (fun q hq => by funext j; rw [sI_1, if_neg (by omega)]) rfl rfl) (uew_1 _ _)) nb
theorem RI_enL {nb nr : Nat} {S : sSt} (h : RI nb nr S) : ∀ n, RI nb nr (enL nb nr S n)
  | 0 => h
  | n + 1 => by
    rw [enL]
    split
    · exact RI_recF (RI_enL h n)
    · exact RI_enL h n
theorem RI_end {nb nr p : Nat} {S : sSt} (hp : p < 6) (h : RI nb nr S) (x : Int32) : RI nb nr (sI (sI S 8 p x) 34 p (nI 0)) := by
  obtain ⟨a, b, c⟩ := h
  refine ⟨fun q hq => ?_, b, c⟩
  obtain ⟨k, k1, k2, k3⟩ := a q hq
  by_cases e : q = p
  · subst e
    refine ⟨0, by omega, ?_, fun j hj => absurd hj (Nat.not_lt_zero j)⟩
    rw [sI_1, if_pos ⟨rfl, rfl⟩]
  · refine ⟨k, k1, ?_, fun j hj => ?_⟩
    · rw [sI_1, if_neg (fun q9 => e q9.2), sI_1, if_neg (by omega)]; exact k2
    · rw [sI_1, if_neg (by omega), sI_1, if_neg (by omega)]; exact k3 j hj
theorem RI_sI {nb nr k j : Nat} {x : Int32} {S : sSt} (h : RI nb nr S) (hk : k = 9 ∨ k = 31 ∨ k = 30 ∨ k = 7) : RI nb nr (sI S k j x) := by
  refine RI_of h ?_ (fun q hq => ?_) ?_ ?_ <;> (funext i; rw [sI_1, if_neg (by omega)])
end
section
theorem dX1_has_0 : decode cX1_has 0 = .ok (.iload_n 0, 1) := by decide +kernel
theorem dX1_has_1 : decode cX1_has 1 = .ok (.ifCond .lt 13, 3) := by decide +kernel
theorem dX1_has_4 : decode cX1_has 4 = .ok (.iload_n 0, 1) := by decide +kernel
theorem dX1_has_5 : decode cX1_has 5 = .ok (.bipush 6, 2) := by decide +kernel
theorem dX1_has_7 : decode cX1_has 7 = .ok (.if_icmp .ge 7, 3) := by decide +kernel
theorem dX1_has_10 : decode cX1_has 10 = .ok (.iconst 1, 1) := by decide +kernel
theorem dX1_has_11 : decode cX1_has 11 = .ok (.goto 4, 3) := by decide +kernel
theorem dX1_has_14 : decode cX1_has 14 = .ok (.iconst 0, 1) := by decide +kernel
theorem dX1_has_15 : decode cX1_has 15 = .ok (.ireturn, 1) := by decide +kernel

theorem dX1_isWell_0 : decode cX1_isWell 0 = .ok (.iload_n 1, 1) := by decide +kernel
theorem dX1_isWell_1 : decode cX1_isWell 1 = .ok (.invokestatic 32, 3) := by decide +kernel
theorem dX1_isWell_4 : decode cX1_isWell 4 = .ok (.ifCond .eq 16, 3) := by decide +kernel
theorem dX1_isWell_7 : decode cX1_isWell 7 = .ok (.aload_n 0, 1) := by decide +kernel
theorem dX1_isWell_8 : decode cX1_isWell 8 = .ok (.getfield 19, 3) := by decide +kernel
theorem dX1_isWell_11 : decode cX1_isWell 11 = .ok (.iload_n 1, 1) := by decide +kernel
theorem dX1_isWell_12 : decode cX1_isWell 12 = .ok (.iaload, 1) := by decide +kernel
theorem dX1_isWell_13 : decode cX1_isWell 13 = .ok (.ifCond .ne 7, 3) := by decide +kernel
theorem dX1_isWell_16 : decode cX1_isWell 16 = .ok (.iconst 1, 1) := by decide +kernel
theorem dX1_isWell_17 : decode cX1_isWell 17 = .ok (.goto 4, 3) := by decide +kernel
theorem dX1_isWell_20 : decode cX1_isWell 20 = .ok (.iconst 0, 1) := by decide +kernel
theorem dX1_isWell_21 : decode cX1_isWell 21 = .ok (.ireturn, 1) := by decide +kernel

theorem dX1_tell_0 : decode cX1_tell 0 = .ok (.iconst 1, 1) := by decide +kernel
theorem dX1_tell_1 : decode cX1_tell 1 = .ok (.iload_n 1, 1) := by decide +kernel
theorem dX1_tell_2 : decode cX1_tell 2 = .ok (.ishl, 1) := by decide +kernel
theorem dX1_tell_3 : decode cX1_tell 3 = .ok (.istore_n 3, 1) := by decide +kernel
theorem dX1_tell_4 : decode cX1_tell 4 = .ok (.aload_n 0, 1) := by decide +kernel
theorem dX1_tell_5 : decode cX1_tell 5 = .ok (.getfield 23, 3) := by decide +kernel
theorem dX1_tell_8 : decode cX1_tell 8 = .ok (.iload_n 2, 1) := by decide +kernel
theorem dX1_tell_9 : decode cX1_tell 9 = .ok (.iaload, 1) := by decide +kernel
theorem dX1_tell_10 : decode cX1_tell 10 = .ok (.iload_n 3, 1) := by decide +kernel
theorem dX1_tell_11 : decode cX1_tell 11 = .ok (.iand, 1) := by decide +kernel
theorem dX1_tell_12 : decode cX1_tell 12 = .ok (.ifCond .eq 5, 3) := by decide +kernel
theorem dX1_tell_15 : decode cX1_tell 15 = .ok (.iconst 0, 1) := by decide +kernel
theorem dX1_tell_16 : decode cX1_tell 16 = .ok (.ireturn, 1) := by decide +kernel
theorem dX1_tell_17 : decode cX1_tell 17 = .ok (.aload_n 0, 1) := by decide +kernel
theorem dX1_tell_18 : decode cX1_tell 18 = .ok (.getfield 23, 3) := by decide +kernel
theorem dX1_tell_21 : decode cX1_tell 21 = .ok (.iload_n 2, 1) := by decide +kernel
theorem dX1_tell_22 : decode cX1_tell 22 = .ok (.dup2, 1) := by decide +kernel
theorem dX1_tell_23 : decode cX1_tell 23 = .ok (.iaload, 1) := by decide +kernel
theorem dX1_tell_24 : decode cX1_tell 24 = .ok (.iload_n 3, 1) := by decide +kernel
theorem dX1_tell_25 : decode cX1_tell 25 = .ok (.ior, 1) := by decide +kernel
theorem dX1_tell_26 : decode cX1_tell 26 = .ok (.iastore, 1) := by decide +kernel
theorem dX1_tell_27 : decode cX1_tell 27 = .ok (.iconst 1, 1) := by decide +kernel
theorem dX1_tell_28 : decode cX1_tell 28 = .ok (.ireturn, 1) := by decide +kernel

theorem dX1_canBeRecovered_0 : decode cX1_canBeRecovered 0 = .ok (.iconst 0, 1) := by decide +kernel
theorem dX1_canBeRecovered_1 : decode cX1_canBeRecovered 1 = .ok (.istore_n 2, 1) := by decide +kernel
theorem dX1_canBeRecovered_2 : decode cX1_canBeRecovered 2 = .ok (.iconst 0, 1) := by decide +kernel
theorem dX1_canBeRecovered_3 : decode cX1_canBeRecovered 3 = .ok (.istore_n 3, 1) := by decide +kernel
theorem dX1_canBeRecovered_4 : decode cX1_canBeRecovered 4 = .ok (.iload_n 3, 1) := by decide +kernel
theorem dX1_canBeRecovered_5 : decode cX1_canBeRecovered 5 = .ok (.bipush 6, 2) := by decide +kernel
theorem dX1_canBeRecovered_7 : decode cX1_canBeRecovered 7 = .ok (.if_icmp .ge 24, 3) := by decide +kernel
theorem dX1_canBeRecovered_10 : decode cX1_canBeRecovered 10 = .ok (.aload_n 0, 1) := by decide +kernel
theorem dX1_canBeRecovered_11 : decode cX1_canBeRecovered 11 = .ok (.getfield 19, 3) := by decide +kernel
theorem dX1_canBeRecovered_14 : decode cX1_canBeRecovered 14 = .ok (.iload_n 3, 1) := by decide +kernel
theorem dX1_canBeRecovered_15 : decode cX1_canBeRecovered 15 = .ok (.iaload, 1) := by decide +kernel
theorem dX1_canBeRecovered_16 : decode cX1_canBeRecovered 16 = .ok (.ifCond .ne 9, 3) := by decide +kernel
theorem dX1_canBeRecovered_19 : decode cX1_canBeRecovered 19 = .ok (.iload_n 2, 1) := by decide +kernel
theorem dX1_canBeRecovered_20 : decode cX1_canBeRecovered 20 = .ok (.iconst 1, 1) := by decide +kernel
theorem dX1_canBeRecovered_21 : decode cX1_canBeRecovered 21 = .ok (.iload_n 3, 1) := by decide +kernel
theorem dX1_canBeRecovered_22 : decode cX1_canBeRecovered 22 = .ok (.ishl, 1) := by decide +kernel
theorem dX1_canBeRecovered_23 : decode cX1_canBeRecovered 23 = .ok (.ior, 1) := by decide +kernel
theorem dX1_canBeRecovered_24 : decode cX1_canBeRecovered 24 = .ok (.istore_n 2, 1) := by decide +kernel
theorem dX1_canBeRecovered_25 : decode cX1_canBeRecovered 25 = .ok (.iinc 3 1, 3) := by decide +kernel
theorem dX1_canBeRecovered_28 : decode cX1_canBeRecovered 28 = .ok (.goto (-24), 3) := by decide +kernel
theorem dX1_canBeRecovered_31 : decode cX1_canBeRecovered 31 = .ok (.aload_n 0, 1) := by decide +kernel
theorem dX1_canBeRecovered_32 : decode cX1_canBeRecovered 32 = .ok (.getfield 19, 3) := by decide +kernel
theorem dX1_canBeRecovered_35 : decode cX1_canBeRecovered 35 = .ok (.iload_n 1, 1) := by decide +kernel
theorem dX1_canBeRecovered_36 : decode cX1_canBeRecovered 36 = .ok (.iaload, 1) := by decide +kernel
theorem dX1_canBeRecovered_37 : decode cX1_canBeRecovered 37 = .ok (.iconst 1, 1) := by decide +kernel
theorem dX1_canBeRecovered_38 : decode cX1_canBeRecovered 38 = .ok (.if_icmp .ne 23, 3) := by decide +kernel
theorem dX1_canBeRecovered_41 : decode cX1_canBeRecovered 41 = .ok (.iload_n 2, 1) := by decide +kernel
theorem dX1_canBeRecovered_42 : decode cX1_canBeRecovered 42 = .ok (.ifCond .eq 19, 3) := by decide +kernel
theorem dX1_canBeRecovered_45 : decode cX1_canBeRecovered 45 = .ok (.aload_n 0, 1) := by decide +kernel
theorem dX1_canBeRecovered_46 : decode cX1_canBeRecovered 46 = .ok (.getfield 23, 3) := by decide +kernel
theorem dX1_canBeRecovered_49 : decode cX1_canBeRecovered 49 = .ok (.iload_n 1, 1) := by decide +kernel
theorem dX1_canBeRecovered_50 : decode cX1_canBeRecovered 50 = .ok (.iaload, 1) := by decide +kernel
theorem dX1_canBeRecovered_51 : decode cX1_canBeRecovered 51 = .ok (.iload_n 2, 1) := by decide +kernel
theorem dX1_canBeRecovered_52 : decode cX1_canBeRecovered 52 = .ok (.iand, 1) := by decide +kernel
theorem dX1_canBeRecovered_53 : decode cX1_canBeRecovered 53 = .ok (.iload_n 2, 1) := by decide +kernel
theorem dX1_canBeRecovered_54 : decode cX1_canBeRecovered 54 = .ok (.if_icmp .ne 7, 3) := by decide +kernel
theorem dX1_canBeRecovered_57 : decode cX1_canBeRecovered 57 = .ok (.iconst 1, 1) := by decide +kernel
theorem dX1_canBeRecovered_58 : decode cX1_canBeRecovered 58 = .ok (.goto 4, 3) := by decide +kernel
theorem dX1_canBeRecovered_61 : decode cX1_canBeRecovered 61 = .ok (.iconst 0, 1) := by decide +kernel
theorem dX1_canBeRecovered_62 : decode cX1_canBeRecovered 62 = .ok (.ireturn, 1) := by decide +kernel

set_option maxHeartbeats 4000000 in
set_option maxRecDepth 100000 in
theorem kX1_has (l : Launch) (dC : Nat → ClassId) (dI : Nat → Nat → Nat) (ca : Nat → ClassId) (ad : Nat → Nat) (S : sSt) (pp : Int32) : ct_I l yX1_has (Cond.code yX1_has cX1_has 1 (some .boolean) :: wa_T) ({ frames := 0, cells := 0, slots := 0, locals := 0 } : Room) (dC, dI) vwCl (tyl ca) (wc ca ad) S [.int pp] (fun r S2 => r = bI (h6 pp) ∧ S2 = S) := by
  refine ct_ofI (by decide) (Nat.le_of_ble_eq_true rfl) ?_
  intro p e s m below meth c A ls hx hb hr hml hts hown hlocks hK hA hw hl
  have hl : lv_has ls 1 [(0, .int pp)] := hl
  refine lv_iload_n hx hb dX1_has_0 rfl (lv_at hl 0 rfl) ?_
  refine lv_if_lt (tgt := 14) hx hb dX1_has_1 (by decide) (fun c_1 => ?_) (fun c_1 => ?_)
  · skip
    refine lv_iconst (v := nI 0) hx hb dX1_has_14 (by decide) ?_
    exact ct_zret (S := S) (v := nI 0) hx hb hr hlocks hK (by first | decide | exact nb_z _) hw (⟨by simp only [bI, h6, c_1, decide_true, decide_false, Bool.not_true, Bool.not_false, Bool.true_and, Bool.and_true, Bool.false_and, Bool.and_false, Bool.or_true, Bool.true_or, Bool.or_false, Bool.false_or, Bool.false_eq_true, Bool.true_eq_false, if_true, if_false, ↓reduceIte], rfl⟩) dX1_has_15
  · skip
    refine lv_iload_n hx hb dX1_has_4 rfl (lv_at hl 0 rfl) ?_
    refine lv_bipush (v := nI 6) hx hb dX1_has_5 (by decide) ?_
    refine lv_icmp_ge (tgt := 14) hx hb dX1_has_7 (by decide) (fun c_2 => ?_) (fun c_2 => ?_)
    · skip
      refine lv_iconst (v := nI 0) hx hb dX1_has_14 (by decide) ?_
      exact ct_zret (S := S) (v := nI 0) hx hb hr hlocks hK (by first | decide | exact nb_z _) hw (⟨by simp only [bI, h6, c_1, c_2, decide_true, decide_false, Bool.not_true, Bool.not_false, Bool.true_and, Bool.and_true, Bool.false_and, Bool.and_false, Bool.or_true, Bool.true_or, Bool.or_false, Bool.false_or, Bool.false_eq_true, Bool.true_eq_false, if_true, if_false, ↓reduceIte], rfl⟩) dX1_has_15
    · skip
      refine lv_iconst (v := nI 1) hx hb dX1_has_10 (by decide) ?_
      refine lv_goto (tgt := 15) hx hb dX1_has_11 (by decide) ?_
      exact ct_zret (S := S) (v := nI 1) hx hb hr hlocks hK (by first | decide | exact nb_z _) hw (⟨by simp only [bI, h6, c_1, c_2, decide_true, decide_false, Bool.not_true, Bool.not_false, Bool.true_and, Bool.and_true, Bool.false_and, Bool.and_false, Bool.or_true, Bool.true_or, Bool.or_false, Bool.false_or, Bool.false_eq_true, Bool.true_eq_false, if_true, if_false, ↓reduceIte], rfl⟩) dX1_has_15

set_option maxHeartbeats 4000000 in
set_option maxRecDepth 100000 in
theorem kX1_isWell (l : Launch) (dC : Nat → ClassId) (dI : Nat → Nat → Nat) (ca : Nat → ClassId) (ad : Nat → Nat) (S : sSt) (pp : Int32) : ct_I l yX1_isWell (Cond.code yX1_isWell cX1_isWell 2 (some .boolean) :: wa_T) ({ frames := 1, cells := 0, slots := 0, locals := 20 } : Room) (dC, dI) vwCl (tyl ca) (wc ca ad) S [.ref (ad 1), .int pp] (fun r S2 => r = bI (wl S pp) ∧ S2 = S) := by
  refine ct_ofI (by decide) (Nat.le_of_ble_eq_true rfl) ?_
  intro p e s m below meth c A ls hx hb hr hml hts hown hlocks hK hA hw hl
  have hl : lv_has ls 2 [(0, .ref (ad 1)), (1, .int pp)] := hl
  refine lv_iload_n hx hb dX1_isWell_0 rfl (lv_at hl 1 rfl) ?_
  refine wo_sI (As := [.int pp]) (rest := []) (kX1_has l dC dI ca ad S pp) ⟨hx, hb, hml, hown, hts⟩ (va_cwS 1 hts (wa_gS wd_196 wd_197 wd_2 wd_198) rfl rfl rfl (by decide +kernel) ⟨Nat.le_of_ble_eq_true rfl, Nat.le_of_ble_eq_true rfl⟩) hK hw hA rfl hl.1 rfl (Nat.le_of_ble_eq_true rfl) dX1_isWell_1 ⟨Nat.zero_le _, Nat.zero_le _⟩ (fun r_1 S_1 H locs hp_1 hw => ?_)
  have e9 := hp_1.1.symm
  subst e9
  have e9 := hp_1.2.symm
  subst e9
  refine lv_if_eq (tgt := 20) hx hb dX1_isWell_4 (by decide) (fun c_2 => ?_) (fun c_2 => ?_)
  · skip
    have c_2 : h6 pp = false := nb_0 c_2
    refine lv_iconst (v := nI 0) hx hb dX1_isWell_20 (by decide) ?_
    exact ct_zret (S := S) (v := nI 0) hx hb hr hlocks hK (by first | decide | exact nb_z _) hw (⟨by simp only [bI, wl, c_2, decide_true, decide_false, Bool.not_true, Bool.not_false, Bool.true_and, Bool.and_true, Bool.false_and, Bool.and_false, Bool.or_true, Bool.true_or, Bool.or_false, Bool.false_or, Bool.false_eq_true, Bool.true_eq_false, if_true, if_false, ↓reduceIte], rfl⟩) dX1_isWell_21
  · skip
    have c_2 : h6 pp = true := nb_1 c_2
    obtain ⟨p9, hp9, rfl⟩ := h6_n c_2
    have ec9 := nI_clamp (n := p9) (by omega)
    refine lv_aload_n hx hb dX1_isWell_7 rfl (lv_at hl 0 rfl) ?_
    refine wo_get hx hb hts inX1 hown hK hw 1 rfl rfl 2 (by decide) (hts _ wd_39) (fun _ h9 => h9) rfl dX1_isWell_8 ?_
    refine lv_iload_n hx hb dX1_isWell_11 rfl (lv_at hl 1 rfl) ?_
    refine wo_iald hx hb hK hw 8 0 rfl rfl p9 rfl (by first | assumption | omega) (by decide) dX1_isWell_12 ?_
    refine lv_if_ne (tgt := 20) hx hb dX1_isWell_13 (by decide) (fun c_3 => ?_) (fun c_3 => ?_)
    · skip
      refine lv_iconst (v := nI 0) hx hb dX1_isWell_20 (by decide) ?_
      exact ct_zret (S := S) (v := nI 0) hx hb hr hlocks hK (by first | decide | exact nb_z _) hw (⟨by simp only [bI, wl, c_2, ec9, c_3, decide_true, decide_false, Bool.not_true, Bool.not_false, Bool.true_and, Bool.and_true, Bool.false_and, Bool.and_false, Bool.or_true, Bool.true_or, Bool.or_false, Bool.false_or, Bool.false_eq_true, Bool.true_eq_false, if_true, if_false, ↓reduceIte], rfl⟩) dX1_isWell_21
    · skip
      refine lv_iconst (v := nI 1) hx hb dX1_isWell_16 (by decide) ?_
      refine lv_goto (tgt := 21) hx hb dX1_isWell_17 (by decide) ?_
      exact ct_zret (S := S) (v := nI 1) hx hb hr hlocks hK (by first | decide | exact nb_z _) hw (⟨by simp only [bI, wl, c_2, ec9, c_3, decide_true, decide_false, Bool.not_true, Bool.not_false, Bool.true_and, Bool.and_true, Bool.false_and, Bool.and_false, Bool.or_true, Bool.true_or, Bool.or_false, Bool.false_or, Bool.false_eq_true, Bool.true_eq_false, if_true, if_false, ↓reduceIte], rfl⟩) dX1_isWell_21

set_option maxHeartbeats 4000000 in
set_option maxRecDepth 100000 in
theorem kX1_tell (l : Launch) (dC : Nat → ClassId) (dI : Nat → Nat → Nat) (ca : Nat → ClassId) (ad : Nat → Nat) (S : sSt) (pp : Nat) (gg : Nat) (hp : pp < 6) (hg : gg < 6) : ct_I l yX1_tell (Cond.code yX1_tell cX1_tell 4 (some .boolean) :: wa_T) ({ frames := 0, cells := 0, slots := 0, locals := 0 } : Room) (dC, dI) vwCl (tyl ca) (wc ca ad) S [.ref (ad 1), .int (nI pp), .int (nI gg)] (fun r S2 => r = bI (tk S gg pp) ∧ S2 = if tk S gg pp = true then sI S 9 gg (S.1 9 gg ||| bt1 pp) else S) := by
  refine ct_ofI (by decide) (Nat.le_of_ble_eq_true rfl) ?_
  intro p e s m below meth c A ls hx hb hr hml hts hown hlocks hK hA hw hl
  have hl : lv_has ls 4 [(0, .ref (ad 1)), (1, .int (nI pp)), (2, .int (nI gg))] := hl
  refine lv_iconst (v := nI 1) hx hb dX1_tell_0 (by decide) ?_
  refine lv_iload_n hx hb dX1_tell_1 rfl (lv_at hl 1 rfl) ?_
  refine lv_ishl hx hb dX1_tell_2 ?_
  refine lv_istore_n (lv' := [(3, .int ((nI 1) <<< ((nI pp) &&& 31))), (0, .ref (ad 1)), (1, .int (nI pp)), (2, .int (nI gg))]) hx hb dX1_tell_3 rfl hl (by decide) rfl (fun ls hl => ?_)
  refine lv_aload_n hx hb dX1_tell_4 rfl (lv_at hl 1 rfl) ?_
  refine wo_get hx hb hts inX1 hown hK hw 1 rfl rfl 3 (by decide) (hts _ wd_41) (fun _ h9 => h9) rfl dX1_tell_5 ?_
  refine lv_iload_n hx hb dX1_tell_8 rfl (lv_at hl 3 rfl) ?_
  refine wo_iald hx hb hK hw 9 0 rfl rfl gg rfl (by first | assumption | omega) (by decide) dX1_tell_9 ?_
  refine lv_iload_n hx hb dX1_tell_10 rfl (lv_at hl 0 rfl) ?_
  refine lv_iand hx hb dX1_tell_11 ?_
  refine lv_if_eq (tgt := 17) hx hb dX1_tell_12 (by decide) (fun c_1 => ?_) (fun c_1 => ?_)
  · skip
    refine lv_aload_n hx hb dX1_tell_17 rfl (lv_at hl 1 rfl) ?_
    refine wo_get hx hb hts inX1 hown hK hw 1 rfl rfl 3 (by decide) (hts _ wd_41) (fun _ h9 => h9) rfl dX1_tell_18 ?_
    refine lv_iload_n hx hb dX1_tell_21 rfl (lv_at hl 3 rfl) ?_
    refine lv_dup2_11 hx hb dX1_tell_22 rfl rfl ?_
    refine wo_iald hx hb hK hw 9 0 rfl rfl gg rfl (by first | assumption | omega) (by decide) dX1_tell_23 ?_
    refine lv_iload_n hx hb dX1_tell_24 rfl (lv_at hl 0 rfl) ?_
    refine lv_ior hx hb dX1_tell_25 ?_
    refine wo_iast hx hb hK hw 9 0 rfl rfl gg rfl (by first | assumption | omega) (by decide) (se_9 ca ad S gg ((S.1 9 gg) ||| ((nI 1) <<< ((nI pp) &&& 31)))) dX1_tell_26 (fun H locs hw => ?_)
    refine lv_iconst (v := nI 1) hx hb dX1_tell_27 (by decide) ?_
    exact ct_zret (S := sI S 9 gg ((S.1 9 gg) ||| ((nI 1) <<< ((nI pp) &&& 31)))) (v := nI 1) hx hb hr hlocks hK (by first | decide | exact nb_z _) hw (⟨by simp only [bI, tk, bt1, c_1, decide_true, decide_false, Bool.not_true, Bool.not_false, Bool.true_and, Bool.and_true, Bool.false_and, Bool.and_false, Bool.or_true, Bool.true_or, Bool.or_false, Bool.false_or, Bool.false_eq_true, Bool.true_eq_false, if_true, if_false, ↓reduceIte], by simp only [tk, bt1, c_1, decide_true, decide_false, Bool.not_true, Bool.not_false, Bool.true_and, Bool.and_true, Bool.false_and, Bool.and_false, Bool.or_true, Bool.true_or, Bool.or_false, Bool.false_or, Bool.false_eq_true, Bool.true_eq_false, if_true, if_false, ↓reduceIte]⟩) dX1_tell_28
  · skip
    refine lv_iconst (v := nI 0) hx hb dX1_tell_15 (by decide) ?_
    exact ct_zret (S := S) (v := nI 0) hx hb hr hlocks hK (by first | decide | exact nb_z _) hw (⟨by simp only [bI, tk, bt1, c_1, decide_true, decide_false, Bool.not_true, Bool.not_false, Bool.true_and, Bool.and_true, Bool.false_and, Bool.and_false, Bool.or_true, Bool.true_or, Bool.or_false, Bool.false_or, Bool.false_eq_true, Bool.true_eq_false, if_true, if_false, ↓reduceIte], by simp only [tk, bt1, c_1, decide_true, decide_false, Bool.not_true, Bool.not_false, Bool.true_and, Bool.and_true, Bool.false_and, Bool.and_false, Bool.or_true, Bool.true_or, Bool.or_false, Bool.false_or, Bool.false_eq_true, Bool.true_eq_false, if_true, if_false, ↓reduceIte]⟩) dX1_tell_16

set_option maxHeartbeats 4000000 in
set_option maxRecDepth 100000 in
theorem kX1_canBeRecovered (l : Launch) (dC : Nat → ClassId) (dI : Nat → Nat → Nat) (ca : Nat → ClassId) (ad : Nat → Nat) (S : sSt) (gg : Nat) (hg : gg < 6) : ct_I l yX1_canBeRecovered (Cond.code yX1_canBeRecovered cX1_canBeRecovered 4 (some .boolean) :: wa_T) ({ frames := 0, cells := 0, slots := 0, locals := 0 } : Room) (dC, dI) vwCl (tyl ca) (wc ca ad) S [.ref (ad 1), .int (nI gg)] (fun r S2 => r = bI (cr S gg) ∧ S2 = S) := by
  refine ct_ofI (by decide) (Nat.le_of_ble_eq_true rfl) ?_
  intro p e s m below meth c A ls hx hb hr hml hts hown hlocks hK hA hw hl
  have hl : lv_has ls 4 [(0, .ref (ad 1)), (1, .int (nI gg))] := hl
  refine lv_iconst (v := nI 0) hx hb dX1_canBeRecovered_0 (by decide) ?_
  refine lv_istore_n (lv' := [(2, .int (nI 0)), (0, .ref (ad 1)), (1, .int (nI gg))]) hx hb dX1_canBeRecovered_1 rfl hl (by decide) rfl (fun ls hl => ?_)
  refine lv_iconst (v := nI 0) hx hb dX1_canBeRecovered_2 (by decide) ?_
  refine lv_istore_n (lv' := [(3, .int (nI 0)), (2, .int (nI 0)), (0, .ref (ad 1)), (1, .int (nI gg))]) hx hb dX1_canBeRecovered_3 rfl hl (by decide) rfl (fun ls hl => ?_)
  have lp_4 : ∀ (n : Nat) (i : Nat), i ≤ 6 → 7 ≤ i + n → ∀ (H : Heap) (locs : List Loc) (ls : Array Slot), wo_w (dC, dI) vwCl A s.heap (wc ca ad S) H locs → lv_has ls 4 [(0, .ref (ad 1)), (1, .int (nI gg)), (2, .int (wm S i)), (3, .int (nI i))] → W p l e ({ frames := 0, cells := 0, slots := 0, locals := 0 } : Room) s m ([.ref (ad 1), .int (nI gg)] : List Value).toArray below meth c H locs 0 0 (MQ below (va_Qi (fun r S2 => r = bI (cr S gg) ∧ S2 = S) (ct_B (dC, dI) vwCl (tyl ca) (wc ca ad) A) A) ([.ref (ad 1), .int (nI gg)] : List Value).toArray s 0 0 A) (F0 m 4 ls []) := by
    intro n
    induction n with
    | zero =>
      intro i hi hn
      exfalso
      omega
    | succ n ih_4 =>
      intro i hi hn H locs ls hw hl
      refine lv_iload_n hx hb dX1_canBeRecovered_4 rfl (lv_at hl 3 rfl) ?_
      refine lv_bipush (v := nI 6) hx hb dX1_canBeRecovered_5 (by decide) ?_
      refine lv_icmp_ge (tgt := 31) hx hb dX1_canBeRecovered_7 (by decide) (fun c_1 => ?_) (fun c_1 => ?_)
      · skip
        have c_1 : 6 ≤ i := (nI_leI (a := 6) (b := i) (by omega) (by omega)).mp c_1
        obtain rfl : 6 = i := by omega
        refine lv_aload_n hx hb dX1_canBeRecovered_31 rfl (lv_at hl 0 rfl) ?_
        refine wo_get hx hb hts inX1 hown hK hw 1 rfl rfl 2 (by decide) (hts _ wd_39) (fun _ h9 => h9) rfl dX1_canBeRecovered_32 ?_
        refine lv_iload_n hx hb dX1_canBeRecovered_35 rfl (lv_at hl 1 rfl) ?_
        refine wo_iald hx hb hK hw 8 0 rfl rfl gg rfl (by first | assumption | omega) (by decide) dX1_canBeRecovered_36 ?_
        refine lv_iconst (v := nI 1) hx hb dX1_canBeRecovered_37 (by decide) ?_
        refine lv_icmp_ne (tgt := 61) hx hb dX1_canBeRecovered_38 (by decide) (fun c_2 => ?_) (fun c_2 => ?_)
        · skip
          refine lv_iconst (v := nI 0) hx hb dX1_canBeRecovered_61 (by decide) ?_
          exact ct_zret (S := S) (v := nI 0) hx hb hr hlocks hK (by first | decide | exact nb_z _) hw (⟨by simp only [bI, cr, c_1, c_2, decide_true, decide_false, Bool.not_true, Bool.not_false, Bool.true_and, Bool.and_true, Bool.false_and, Bool.and_false, Bool.or_true, Bool.true_or, Bool.or_false, Bool.false_or, Bool.false_eq_true, Bool.true_eq_false, if_true, if_false, ↓reduceIte], rfl⟩) dX1_canBeRecovered_62
        · skip
          refine lv_iload_n hx hb dX1_canBeRecovered_41 rfl (lv_at hl 2 rfl) ?_
          refine lv_if_eq (tgt := 61) hx hb dX1_canBeRecovered_42 (by decide) (fun c_3 => ?_) (fun c_3 => ?_)
          · skip
            refine lv_iconst (v := nI 0) hx hb dX1_canBeRecovered_61 (by decide) ?_
            exact ct_zret (S := S) (v := nI 0) hx hb hr hlocks hK (by first | decide | exact nb_z _) hw (⟨by simp only [bI, cr, c_1, c_2, c_3, decide_true, decide_false, Bool.not_true, Bool.not_false, Bool.true_and, Bool.and_true, Bool.false_and, Bool.and_false, Bool.or_true, Bool.true_or, Bool.or_false, Bool.false_or, Bool.false_eq_true, Bool.true_eq_false, if_true, if_false, ↓reduceIte], rfl⟩) dX1_canBeRecovered_62
          · skip
            refine lv_aload_n hx hb dX1_canBeRecovered_45 rfl (lv_at hl 0 rfl) ?_
            refine wo_get hx hb hts inX1 hown hK hw 1 rfl rfl 3 (by decide) (hts _ wd_41) (fun _ h9 => h9) rfl dX1_canBeRecovered_46 ?_
            refine lv_iload_n hx hb dX1_canBeRecovered_49 rfl (lv_at hl 1 rfl) ?_
            refine wo_iald hx hb hK hw 9 0 rfl rfl gg rfl (by first | assumption | omega) (by decide) dX1_canBeRecovered_50 ?_
            refine lv_iload_n hx hb dX1_canBeRecovered_51 rfl (lv_at hl 2 rfl) ?_
            refine lv_iand hx hb dX1_canBeRecovered_52 ?_
            refine lv_iload_n hx hb dX1_canBeRecovered_53 rfl (lv_at hl 2 rfl) ?_
            refine lv_icmp_ne (tgt := 61) hx hb dX1_canBeRecovered_54 (by decide) (fun c_4 => ?_) (fun c_4 => ?_)
            · skip
              refine lv_iconst (v := nI 0) hx hb dX1_canBeRecovered_61 (by decide) ?_
              exact ct_zret (S := S) (v := nI 0) hx hb hr hlocks hK (by first | decide | exact nb_z _) hw (⟨by simp only [bI, cr, c_1, c_2, c_3, c_4, decide_true, decide_false, Bool.not_true, Bool.not_false, Bool.true_and, Bool.and_true, Bool.false_and, Bool.and_false, Bool.or_true, Bool.true_or, Bool.or_false, Bool.false_or, Bool.false_eq_true, Bool.true_eq_false, if_true, if_false, ↓reduceIte], rfl⟩) dX1_canBeRecovered_62
            · skip
              refine lv_iconst (v := nI 1) hx hb dX1_canBeRecovered_57 (by decide) ?_
              refine lv_goto (tgt := 62) hx hb dX1_canBeRecovered_58 (by decide) ?_
              exact ct_zret (S := S) (v := nI 1) hx hb hr hlocks hK (by first | decide | exact nb_z _) hw (⟨by simp only [bI, cr, c_1, c_2, c_3, c_4, decide_true, decide_false, Bool.not_true, Bool.not_false, Bool.true_and, Bool.and_true, Bool.false_and, Bool.and_false, Bool.or_true, Bool.true_or, Bool.or_false, Bool.false_or, Bool.false_eq_true, Bool.true_eq_false, if_true, if_false, ↓reduceIte], rfl⟩) dX1_canBeRecovered_62
      · skip
        have c_1 : ¬ (6 ≤ i) := fun h9 => c_1 ((nI_leI (a := 6) (b := i) (by omega) (by omega)).mpr h9)
        refine lv_aload_n hx hb dX1_canBeRecovered_10 rfl (lv_at hl 0 rfl) ?_
        refine wo_get hx hb hts inX1 hown hK hw 1 rfl rfl 2 (by decide) (hts _ wd_39) (fun _ h9 => h9) rfl dX1_canBeRecovered_11 ?_
        refine lv_iload_n hx hb dX1_canBeRecovered_14 rfl (lv_at hl 3 rfl) ?_
        refine wo_iald hx hb hK hw 8 0 rfl rfl i rfl (by first | assumption | omega) (by decide) dX1_canBeRecovered_15 ?_
        refine lv_if_ne (tgt := 25) hx hb dX1_canBeRecovered_16 (by decide) (fun c_5 => ?_) (fun c_5 => ?_)
        · skip
          refine lv_iinc (v := nI (i + 1)) (lv' := [(3, .int (nI (i + 1))), (0, .ref (ad 1)), (1, .int (nI gg)), (2, .int (wm S i))]) hx hb dX1_canBeRecovered_25 hl (k := 3) rfl (nI_inc _) (by decide) rfl (fun ls hl => ?_)
          refine lv_goto (tgt := 4) hx hb dX1_canBeRecovered_28 (by decide) ?_
          have e9 : wm S i = wm S (i + 1) := by first | rfl | (simp only [wm, bt1, c_1, c_5, ↓reduceIte]; done)
          rw [e9] at hl
          exact ih_4 (i + 1) (by omega) (by omega) _ _ _ hw (lv_sub hl [1, 2, 3, 0] rfl)
        · skip
          refine lv_iload_n hx hb dX1_canBeRecovered_19 rfl (lv_at hl 2 rfl) ?_
          refine lv_iconst (v := nI 1) hx hb dX1_canBeRecovered_20 (by decide) ?_
          refine lv_iload_n hx hb dX1_canBeRecovered_21 rfl (lv_at hl 3 rfl) ?_
          refine lv_ishl hx hb dX1_canBeRecovered_22 ?_
          refine lv_ior hx hb dX1_canBeRecovered_23 ?_
          refine lv_istore_n (lv' := [(2, .int ((wm S i) ||| ((nI 1) <<< ((nI i) &&& 31)))), (0, .ref (ad 1)), (1, .int (nI gg)), (3, .int (nI i))]) hx hb dX1_canBeRecovered_24 rfl hl (by decide) rfl (fun ls hl => ?_)
          refine lv_iinc (v := nI (i + 1)) (lv' := [(3, .int (nI (i + 1))), (2, .int ((wm S i) ||| ((nI 1) <<< ((nI i) &&& 31)))), (0, .ref (ad 1)), (1, .int (nI gg))]) hx hb dX1_canBeRecovered_25 hl (k := 3) rfl (nI_inc _) (by decide) rfl (fun ls hl => ?_)
          refine lv_goto (tgt := 4) hx hb dX1_canBeRecovered_28 (by decide) ?_
          have e9 : (wm S i) ||| ((nI 1) <<< ((nI i) &&& 31)) = wm S (i + 1) := by first | rfl | (simp only [wm, bt1, c_1, c_5, ↓reduceIte]; done)
          rw [e9] at hl
          exact ih_4 (i + 1) (by omega) (by omega) _ _ _ hw (lv_sub hl [2, 3, 1, 0] rfl)
  have e9 : nI 0 = wm S 0 := by first | rfl | (simp only [wm, bt1, ↓reduceIte]; done)
  rw [e9] at hl
  exact lp_4 7 0 (by omega) (by omega) _ _ _ hw (lv_sub hl [2, 3, 1, 0] rfl)
end
section
theorem dX0_has_0 : decode cX0_has 0 = .ok (.iload_n 1, 1) := by decide +kernel
theorem dX0_has_1 : decode cX0_has 1 = .ok (.ifCond .lt 15, 3) := by decide +kernel
theorem dX0_has_4 : decode cX0_has 4 = .ok (.iload_n 1, 1) := by decide +kernel
theorem dX0_has_5 : decode cX0_has 5 = .ok (.aload_n 0, 1) := by decide +kernel
theorem dX0_has_6 : decode cX0_has 6 = .ok (.getfield 26, 3) := by decide +kernel
theorem dX0_has_9 : decode cX0_has 9 = .ok (.if_icmp .ge 7, 3) := by decide +kernel
theorem dX0_has_12 : decode cX0_has 12 = .ok (.iconst 1, 1) := by decide +kernel
theorem dX0_has_13 : decode cX0_has 13 = .ok (.goto 4, 3) := by decide +kernel
theorem dX0_has_16 : decode cX0_has 16 = .ok (.iconst 0, 1) := by decide +kernel
theorem dX0_has_17 : decode cX0_has 17 = .ok (.ireturn, 1) := by decide +kernel

theorem dX0_open_0 : decode cX0_open 0 = .ok (.aload_n 0, 1) := by decide +kernel
theorem dX0_open_1 : decode cX0_open 1 = .ok (.getfield 9, 3) := by decide +kernel
theorem dX0_open_4 : decode cX0_open 4 = .ok (.aload_n 0, 1) := by decide +kernel
theorem dX0_open_5 : decode cX0_open 5 = .ok (.getfield 26, 3) := by decide +kernel
theorem dX0_open_8 : decode cX0_open 8 = .ok (.lload_n 1, 1) := by decide +kernel
theorem dX0_open_9 : decode cX0_open 9 = .ok (.lastore, 1) := by decide +kernel
theorem dX0_open_10 : decode cX0_open 10 = .ok (.aload_n 0, 1) := by decide +kernel
theorem dX0_open_11 : decode cX0_open 11 = .ok (.getfield 15, 3) := by decide +kernel
theorem dX0_open_14 : decode cX0_open 14 = .ok (.aload_n 0, 1) := by decide +kernel
theorem dX0_open_15 : decode cX0_open 15 = .ok (.getfield 26, 3) := by decide +kernel
theorem dX0_open_18 : decode cX0_open 18 = .ok (.lload_n 3, 1) := by decide +kernel
theorem dX0_open_19 : decode cX0_open 19 = .ok (.lastore, 1) := by decide +kernel
theorem dX0_open_20 : decode cX0_open 20 = .ok (.aload_n 0, 1) := by decide +kernel
theorem dX0_open_21 : decode cX0_open 21 = .ok (.getfield 18, 3) := by decide +kernel
theorem dX0_open_24 : decode cX0_open 24 = .ok (.aload_n 0, 1) := by decide +kernel
theorem dX0_open_25 : decode cX0_open 25 = .ok (.getfield 26, 3) := by decide +kernel
theorem dX0_open_28 : decode cX0_open 28 = .ok (.lload 5, 2) := by decide +kernel
theorem dX0_open_30 : decode cX0_open 30 = .ok (.lastore, 1) := by decide +kernel
theorem dX0_open_31 : decode cX0_open 31 = .ok (.aload_n 0, 1) := by decide +kernel
theorem dX0_open_32 : decode cX0_open 32 = .ok (.dup, 1) := by decide +kernel
theorem dX0_open_33 : decode cX0_open 33 = .ok (.getfield 26, 3) := by decide +kernel
theorem dX0_open_36 : decode cX0_open 36 = .ok (.iconst 1, 1) := by decide +kernel
theorem dX0_open_37 : decode cX0_open 37 = .ok (.iadd, 1) := by decide +kernel
theorem dX0_open_38 : decode cX0_open 38 = .ok (.putfield 26, 3) := by decide +kernel
theorem dX0_open_41 : decode cX0_open 41 = .ok (.aload_n 0, 1) := by decide +kernel
theorem dX0_open_42 : decode cX0_open 42 = .ok (.getfield 26, 3) := by decide +kernel
theorem dX0_open_45 : decode cX0_open 45 = .ok (.iconst 1, 1) := by decide +kernel
theorem dX0_open_46 : decode cX0_open 46 = .ok (.isub, 1) := by decide +kernel
theorem dX0_open_47 : decode cX0_open 47 = .ok (.ireturn, 1) := by decide +kernel

theorem dX0_setShares_0 : decode cX0_setShares 0 = .ok (.iconst 0, 1) := by decide +kernel
theorem dX0_setShares_1 : decode cX0_setShares 1 = .ok (.istore 4, 2) := by decide +kernel
theorem dX0_setShares_3 : decode cX0_setShares 3 = .ok (.iload 4, 2) := by decide +kernel
theorem dX0_setShares_5 : decode cX0_setShares 5 = .ok (.bipush 6, 2) := by decide +kernel
theorem dX0_setShares_7 : decode cX0_setShares 7 = .ok (.if_icmp .ge 26, 3) := by decide +kernel
theorem dX0_setShares_10 : decode cX0_setShares 10 = .ok (.aload_n 0, 1) := by decide +kernel
theorem dX0_setShares_11 : decode cX0_setShares 11 = .ok (.getfield 23, 3) := by decide +kernel
theorem dX0_setShares_14 : decode cX0_setShares 14 = .ok (.iload_n 1, 1) := by decide +kernel
theorem dX0_setShares_15 : decode cX0_setShares 15 = .ok (.iconst 2, 1) := by decide +kernel
theorem dX0_setShares_16 : decode cX0_setShares 16 = .ok (.imul, 1) := by decide +kernel
theorem dX0_setShares_17 : decode cX0_setShares 17 = .ok (.iload_n 2, 1) := by decide +kernel
theorem dX0_setShares_18 : decode cX0_setShares 18 = .ok (.iadd, 1) := by decide +kernel
theorem dX0_setShares_19 : decode cX0_setShares 19 = .ok (.aaload, 1) := by decide +kernel
theorem dX0_setShares_20 : decode cX0_setShares 20 = .ok (.iload 4, 2) := by decide +kernel
theorem dX0_setShares_22 : decode cX0_setShares 22 = .ok (.aload_n 3, 1) := by decide +kernel
theorem dX0_setShares_23 : decode cX0_setShares 23 = .ok (.iload 4, 2) := by decide +kernel
theorem dX0_setShares_25 : decode cX0_setShares 25 = .ok (.laload, 1) := by decide +kernel
theorem dX0_setShares_26 : decode cX0_setShares 26 = .ok (.lastore, 1) := by decide +kernel
theorem dX0_setShares_27 : decode cX0_setShares 27 = .ok (.iinc 4 1, 3) := by decide +kernel
theorem dX0_setShares_30 : decode cX0_setShares 30 = .ok (.goto (-27), 3) := by decide +kernel
theorem dX0_setShares_33 : decode cX0_setShares 33 = .ok (.return_, 1) := by decide +kernel

theorem dX0_shareOf_0 : decode cX0_shareOf 0 = .ok (.aload_n 0, 1) := by decide +kernel
theorem dX0_shareOf_1 : decode cX0_shareOf 1 = .ok (.getfield 23, 3) := by decide +kernel
theorem dX0_shareOf_4 : decode cX0_shareOf 4 = .ok (.iload_n 1, 1) := by decide +kernel
theorem dX0_shareOf_5 : decode cX0_shareOf 5 = .ok (.iconst 2, 1) := by decide +kernel
theorem dX0_shareOf_6 : decode cX0_shareOf 6 = .ok (.imul, 1) := by decide +kernel
theorem dX0_shareOf_7 : decode cX0_shareOf 7 = .ok (.iload_n 2, 1) := by decide +kernel
theorem dX0_shareOf_8 : decode cX0_shareOf 8 = .ok (.iadd, 1) := by decide +kernel
theorem dX0_shareOf_9 : decode cX0_shareOf 9 = .ok (.aaload, 1) := by decide +kernel
theorem dX0_shareOf_10 : decode cX0_shareOf 10 = .ok (.iload_n 3, 1) := by decide +kernel
theorem dX0_shareOf_11 : decode cX0_shareOf 11 = .ok (.laload, 1) := by decide +kernel
theorem dX0_shareOf_12 : decode cX0_shareOf 12 = .ok (.lreturn, 1) := by decide +kernel

theorem dX0_addToShare_0 : decode cX0_addToShare 0 = .ok (.aload_n 0, 1) := by decide +kernel
theorem dX0_addToShare_1 : decode cX0_addToShare 1 = .ok (.getfield 23, 3) := by decide +kernel
theorem dX0_addToShare_4 : decode cX0_addToShare 4 = .ok (.iload_n 1, 1) := by decide +kernel
theorem dX0_addToShare_5 : decode cX0_addToShare 5 = .ok (.iconst 2, 1) := by decide +kernel
theorem dX0_addToShare_6 : decode cX0_addToShare 6 = .ok (.imul, 1) := by decide +kernel
theorem dX0_addToShare_7 : decode cX0_addToShare 7 = .ok (.iload_n 2, 1) := by decide +kernel
theorem dX0_addToShare_8 : decode cX0_addToShare 8 = .ok (.iadd, 1) := by decide +kernel
theorem dX0_addToShare_9 : decode cX0_addToShare 9 = .ok (.aaload, 1) := by decide +kernel
theorem dX0_addToShare_10 : decode cX0_addToShare 10 = .ok (.iload_n 3, 1) := by decide +kernel
theorem dX0_addToShare_11 : decode cX0_addToShare 11 = .ok (.dup2, 1) := by decide +kernel
theorem dX0_addToShare_12 : decode cX0_addToShare 12 = .ok (.laload, 1) := by decide +kernel
theorem dX0_addToShare_13 : decode cX0_addToShare 13 = .ok (.lload 4, 2) := by decide +kernel
theorem dX0_addToShare_15 : decode cX0_addToShare 15 = .ok (.ladd, 1) := by decide +kernel
theorem dX0_addToShare_16 : decode cX0_addToShare 16 = .ok (.lastore, 1) := by decide +kernel
theorem dX0_addToShare_17 : decode cX0_addToShare 17 = .ok (.return_, 1) := by decide +kernel

theorem dX0_emptyShare_0 : decode cX0_emptyShare 0 = .ok (.aload_n 0, 1) := by decide +kernel
theorem dX0_emptyShare_1 : decode cX0_emptyShare 1 = .ok (.iload_n 1, 1) := by decide +kernel
theorem dX0_emptyShare_2 : decode cX0_emptyShare 2 = .ok (.iload_n 2, 1) := by decide +kernel
theorem dX0_emptyShare_3 : decode cX0_emptyShare 3 = .ok (.iload_n 3, 1) := by decide +kernel
theorem dX0_emptyShare_4 : decode cX0_emptyShare 4 = .ok (.invokevirtual 30, 3) := by decide +kernel
theorem dX0_emptyShare_7 : decode cX0_emptyShare 7 = .ok (.lstore 4, 2) := by decide +kernel
theorem dX0_emptyShare_9 : decode cX0_emptyShare 9 = .ok (.aload_n 0, 1) := by decide +kernel
theorem dX0_emptyShare_10 : decode cX0_emptyShare 10 = .ok (.iload_n 1, 1) := by decide +kernel
theorem dX0_emptyShare_11 : decode cX0_emptyShare 11 = .ok (.iload_n 2, 1) := by decide +kernel
theorem dX0_emptyShare_12 : decode cX0_emptyShare 12 = .ok (.iload_n 3, 1) := by decide +kernel
theorem dX0_emptyShare_13 : decode cX0_emptyShare 13 = .ok (.lload 4, 2) := by decide +kernel
theorem dX0_emptyShare_15 : decode cX0_emptyShare 15 = .ok (.lneg, 1) := by decide +kernel
theorem dX0_emptyShare_16 : decode cX0_emptyShare 16 = .ok (.invokevirtual 34, 3) := by decide +kernel
theorem dX0_emptyShare_19 : decode cX0_emptyShare 19 = .ok (.lload 4, 2) := by decide +kernel
theorem dX0_emptyShare_21 : decode cX0_emptyShare 21 = .ok (.lreturn, 1) := by decide +kernel

theorem dX0_move_0 : decode cX0_move 0 = .ok (.lload_n 3, 1) := by decide +kernel
theorem dX0_move_1 : decode cX0_move 1 = .ok (.lconst 0, 1) := by decide +kernel
theorem dX0_move_2 : decode cX0_move 2 = .ok (.lcmp, 1) := by decide +kernel
theorem dX0_move_3 : decode cX0_move 3 = .ok (.ifCond .le 13, 3) := by decide +kernel
theorem dX0_move_6 : decode cX0_move 6 = .ok (.aload_n 0, 1) := by decide +kernel
theorem dX0_move_7 : decode cX0_move 7 = .ok (.iload_n 1, 1) := by decide +kernel
theorem dX0_move_8 : decode cX0_move 8 = .ok (.iconst 0, 1) := by decide +kernel
theorem dX0_move_9 : decode cX0_move 9 = .ok (.iload_n 2, 1) := by decide +kernel
theorem dX0_move_10 : decode cX0_move 10 = .ok (.invokevirtual 30, 3) := by decide +kernel
theorem dX0_move_13 : decode cX0_move 13 = .ok (.goto 10, 3) := by decide +kernel
theorem dX0_move_16 : decode cX0_move 16 = .ok (.aload_n 0, 1) := by decide +kernel
theorem dX0_move_17 : decode cX0_move 17 = .ok (.iload_n 1, 1) := by decide +kernel
theorem dX0_move_18 : decode cX0_move 18 = .ok (.iconst 1, 1) := by decide +kernel
theorem dX0_move_19 : decode cX0_move 19 = .ok (.iload_n 2, 1) := by decide +kernel
theorem dX0_move_20 : decode cX0_move 20 = .ok (.invokevirtual 30, 3) := by decide +kernel
theorem dX0_move_23 : decode cX0_move 23 = .ok (.lstore 5, 2) := by decide +kernel
theorem dX0_move_25 : decode cX0_move 25 = .ok (.lload 5, 2) := by decide +kernel
theorem dX0_move_27 : decode cX0_move 27 = .ok (.lload_n 3, 1) := by decide +kernel
theorem dX0_move_28 : decode cX0_move 28 = .ok (.invokestatic 38, 3) := by decide +kernel
theorem dX0_move_31 : decode cX0_move 31 = .ok (.lcmp, 1) := by decide +kernel
theorem dX0_move_32 : decode cX0_move 32 = .ok (.ifCond .ge 5, 3) := by decide +kernel
theorem dX0_move_35 : decode cX0_move 35 = .ok (.iconst 0, 1) := by decide +kernel
theorem dX0_move_36 : decode cX0_move 36 = .ok (.ireturn, 1) := by decide +kernel
theorem dX0_move_37 : decode cX0_move 37 = .ok (.aload_n 0, 1) := by decide +kernel
theorem dX0_move_38 : decode cX0_move 38 = .ok (.iload_n 1, 1) := by decide +kernel
theorem dX0_move_39 : decode cX0_move 39 = .ok (.iconst 0, 1) := by decide +kernel
theorem dX0_move_40 : decode cX0_move 40 = .ok (.iload_n 2, 1) := by decide +kernel
theorem dX0_move_41 : decode cX0_move 41 = .ok (.lload_n 3, 1) := by decide +kernel
theorem dX0_move_42 : decode cX0_move 42 = .ok (.lneg, 1) := by decide +kernel
theorem dX0_move_43 : decode cX0_move 43 = .ok (.invokevirtual 34, 3) := by decide +kernel
theorem dX0_move_46 : decode cX0_move 46 = .ok (.aload_n 0, 1) := by decide +kernel
theorem dX0_move_47 : decode cX0_move 47 = .ok (.iload_n 1, 1) := by decide +kernel
theorem dX0_move_48 : decode cX0_move 48 = .ok (.iconst 1, 1) := by decide +kernel
theorem dX0_move_49 : decode cX0_move 49 = .ok (.iload_n 2, 1) := by decide +kernel
theorem dX0_move_50 : decode cX0_move 50 = .ok (.lload_n 3, 1) := by decide +kernel
theorem dX0_move_51 : decode cX0_move 51 = .ok (.invokevirtual 34, 3) := by decide +kernel
theorem dX0_move_54 : decode cX0_move 54 = .ok (.aload_n 0, 1) := by decide +kernel
theorem dX0_move_55 : decode cX0_move 55 = .ok (.getfield 15, 3) := by decide +kernel
theorem dX0_move_58 : decode cX0_move 58 = .ok (.iload_n 1, 1) := by decide +kernel
theorem dX0_move_59 : decode cX0_move 59 = .ok (.dup2, 1) := by decide +kernel
theorem dX0_move_60 : decode cX0_move 60 = .ok (.laload, 1) := by decide +kernel
theorem dX0_move_61 : decode cX0_move 61 = .ok (.lload_n 3, 1) := by decide +kernel
theorem dX0_move_62 : decode cX0_move 62 = .ok (.lsub, 1) := by decide +kernel
theorem dX0_move_63 : decode cX0_move 63 = .ok (.lastore, 1) := by decide +kernel
theorem dX0_move_64 : decode cX0_move 64 = .ok (.iconst 1, 1) := by decide +kernel
theorem dX0_move_65 : decode cX0_move 65 = .ok (.ireturn, 1) := by decide +kernel

set_option maxHeartbeats 4000000 in
set_option maxRecDepth 100000 in
theorem kX0_has (l : Launch) (dC : Nat → ClassId) (dI : Nat → Nat → Nat) (ca : Nat → ClassId) (ad : Nat → Nat) (S : sSt) (bb : Int32) : ct_I l yX0_has (Cond.code yX0_has cX0_has 2 (some .boolean) :: wa_T) ({ frames := 0, cells := 0, slots := 0, locals := 0 } : Room) (dC, dI) vwCl (tyl ca) (wc ca ad) S [.ref (ad 2), .int bb] (fun r S2 => r = bI (hbd S bb) ∧ S2 = S) := by
  refine ct_ofI (by decide) (Nat.le_of_ble_eq_true rfl) ?_
  intro p e s m below meth c A ls hx hb hr hml hts hown hlocks hK hA hw hl
  have hl : lv_has ls 2 [(0, .ref (ad 2)), (1, .int bb)] := hl
  refine lv_iload_n hx hb dX0_has_0 rfl (lv_at hl 1 rfl) ?_
  refine lv_if_lt (tgt := 16) hx hb dX0_has_1 (by decide) (fun c_1 => ?_) (fun c_1 => ?_)
  · skip
    refine lv_iconst (v := nI 0) hx hb dX0_has_16 (by decide) ?_
    exact ct_zret (S := S) (v := nI 0) hx hb hr hlocks hK (by first | decide | exact nb_z _) hw (⟨by simp only [bI, hbd, c_1, decide_true, decide_false, Bool.not_true, Bool.not_false, Bool.true_and, Bool.and_true, Bool.false_and, Bool.and_false, Bool.or_true, Bool.true_or, Bool.or_false, Bool.false_or, Bool.false_eq_true, Bool.true_eq_false, if_true, if_false, ↓reduceIte], rfl⟩) dX0_has_17
  · skip
    refine lv_iload_n hx hb dX0_has_4 rfl (lv_at hl 1 rfl) ?_
    refine lv_aload_n hx hb dX0_has_5 rfl (lv_at hl 0 rfl) ?_
    refine wo_get hx hb hts inX0 hown hK hw 2 rfl rfl 0 (by decide) (hts _ wd_63) (fun _ h9 => h9) rfl dX0_has_6 ?_
    refine lv_icmp_ge (tgt := 16) hx hb dX0_has_9 (by decide) (fun c_2 => ?_) (fun c_2 => ?_)
    · skip
      refine lv_iconst (v := nI 0) hx hb dX0_has_16 (by decide) ?_
      exact ct_zret (S := S) (v := nI 0) hx hb hr hlocks hK (by first | decide | exact nb_z _) hw (⟨by simp only [bI, hbd, c_1, c_2, decide_true, decide_false, Bool.not_true, Bool.not_false, Bool.true_and, Bool.and_true, Bool.false_and, Bool.and_false, Bool.or_true, Bool.true_or, Bool.or_false, Bool.false_or, Bool.false_eq_true, Bool.true_eq_false, if_true, if_false, ↓reduceIte], rfl⟩) dX0_has_17
    · skip
      refine lv_iconst (v := nI 1) hx hb dX0_has_12 (by decide) ?_
      refine lv_goto (tgt := 17) hx hb dX0_has_13 (by decide) ?_
      exact ct_zret (S := S) (v := nI 1) hx hb hr hlocks hK (by first | decide | exact nb_z _) hw (⟨by simp only [bI, hbd, c_1, c_2, decide_true, decide_false, Bool.not_true, Bool.not_false, Bool.true_and, Bool.and_true, Bool.false_and, Bool.and_false, Bool.or_true, Bool.true_or, Bool.or_false, Bool.false_or, Bool.false_eq_true, Bool.true_eq_false, if_true, if_false, ↓reduceIte], rfl⟩) dX0_has_17

set_option maxHeartbeats 4000000 in
set_option maxRecDepth 100000 in
theorem kX0_open (l : Launch) (dC : Nat → ClassId) (dI : Nat → Nat → Nat) (ca : Nat → ClassId) (ad : Nat → Nat) (S : sSt) (fl : Int64) (va : Int64) (ce : Int64) (nb : Nat) (hb6 : nb < 6) (hcnt : S.1 2 0 = nI nb) : ct_I l yX0_open (Cond.code yX0_open cX0_open 7 (some .int) :: wa_T) ({ frames := 0, cells := 0, slots := 0, locals := 0 } : Room) (dC, dI) vwCl (tyl ca) (wc ca ad) S [.ref (ad 2), .long fl, .long va, .long ce] (fun r S2 => r = nI (nb) ∧ S2 = bopen S nb fl va ce) := by
  refine ct_ofI (by decide) (Nat.le_of_ble_eq_true rfl) ?_
  intro p e s m below meth c A ls hx hb hr hml hts hown hlocks hK hA hw hl
  have hl : lv_has ls 7 [(0, .ref (ad 2)), (1, .long fl), (3, .long va), (5, .long ce)] := hl
  refine lv_aload_n hx hb dX0_open_0 rfl (lv_at hl 0 rfl) ?_
  refine wo_get hx hb hts inX0 hown hK hw 2 rfl rfl 1 (by decide) (hts _ wd_65) (fun _ h9 => h9) rfl dX0_open_1 ?_
  refine lv_aload_n hx hb dX0_open_4 rfl (lv_at hl 0 rfl) ?_
  refine wo_get hx hb hts inX0 hown hK hw 2 rfl rfl 0 (by decide) (hts _ wd_63) (fun _ h9 => h9) rfl dX0_open_5 ?_
  refine tp_i (y := nI nb) (hcnt) ?_
  refine lv_lload_n hx hb dX0_open_8 rfl (lv_at hl 1 rfl) ?_
  refine wo_last hx hb hK hw 10 1 rfl rfl nb rfl (by first | assumption | omega) (by decide) (se_10 ca ad S nb fl) dX0_open_9 (fun H locs hw => ?_)
  refine lv_aload_n hx hb dX0_open_10 rfl (lv_at hl 0 rfl) ?_
  refine wo_get hx hb hts inX0 hown hK hw 2 rfl rfl 2 (by decide) (hts _ wd_67) (fun _ h9 => h9) rfl dX0_open_11 ?_
  refine lv_aload_n hx hb dX0_open_14 rfl (lv_at hl 0 rfl) ?_
  refine wo_get hx hb hts inX0 hown hK hw 2 rfl rfl 0 (by decide) (hts _ wd_63) (fun _ h9 => h9) rfl dX0_open_15 ?_
  refine tp_i (y := nI nb) (hcnt) ?_
  refine lv_lload_n hx hb dX0_open_18 rfl (lv_at hl 2 rfl) ?_
  refine wo_last hx hb hK hw 11 1 rfl rfl nb rfl (by first | assumption | omega) (by decide) (se_11 ca ad (sL S 10 nb fl) nb va) dX0_open_19 (fun H locs hw => ?_)
  refine lv_aload_n hx hb dX0_open_20 rfl (lv_at hl 0 rfl) ?_
  refine wo_get hx hb hts inX0 hown hK hw 2 rfl rfl 3 (by decide) (hts _ wd_69) (fun _ h9 => h9) rfl dX0_open_21 ?_
  refine lv_aload_n hx hb dX0_open_24 rfl (lv_at hl 0 rfl) ?_
  refine wo_get hx hb hts inX0 hown hK hw 2 rfl rfl 0 (by decide) (hts _ wd_63) (fun _ h9 => h9) rfl dX0_open_25 ?_
  refine tp_i (y := nI nb) (hcnt) ?_
  refine lv_lload hx hb dX0_open_28 (lv_at hl 3 rfl) ?_
  refine wo_last hx hb hK hw 12 1 rfl rfl nb rfl (by first | assumption | omega) (by decide) (se_12 ca ad (sL (sL S 10 nb fl) 11 nb va) nb ce) dX0_open_30 (fun H locs hw => ?_)
  refine lv_aload_n hx hb dX0_open_31 rfl (lv_at hl 0 rfl) ?_
  refine lv_dup hx hb dX0_open_32 rfl ?_
  refine wo_get hx hb hts inX0 hown hK hw 2 rfl rfl 0 (by decide) (hts _ wd_63) (fun _ h9 => h9) rfl dX0_open_33 ?_
  refine tp_i (y := nI nb) (hcnt) ?_
  refine lv_iconst (v := nI 1) hx hb dX0_open_36 (by decide) ?_
  refine lv_iadd hx hb dX0_open_37 ?_
  refine tp_i (nI_add nb 1) ?_
  refine wo_put (ty := .int) (v := .int (nI (nb + 1))) hx hb hts inX0 tyX0 tyX0_ok nmX0 hown hK hw 2 rfl rfl 0 (by decide) (hts _ wd_63) (fun _ h9 => h9) rfl (by decide +kernel) rfl rfl (Nat.le_of_ble_eq_true rfl) (sf_2_0 ca ad (sL (sL (sL S 10 nb fl) 11 nb va) 12 nb ce) (nI (nb + 1))) dX0_open_38 (fun H locs hw => ?_)
  refine lv_aload_n hx hb dX0_open_41 rfl (lv_at hl 0 rfl) ?_
  refine wo_get hx hb hts inX0 hown hK hw 2 rfl rfl 0 (by decide) (hts _ wd_63) (fun _ h9 => h9) rfl dX0_open_42 ?_
  refine tp_i (y := nI (nb + 1)) (rfl) ?_
  refine lv_iconst (v := nI 1) hx hb dX0_open_45 (by decide) ?_
  refine lv_isub hx hb dX0_open_46 ?_
  refine tp_i (pk_sub (a := nb + 1) (b := 1) (by omega)) ?_
  exact ct_iret (S := sI (sL (sL (sL S 10 nb fl) 11 nb va) 12 nb ce) 2 0 (nI (nb + 1))) (v := nI ((nb + 1) - 1)) hx hb hr hlocks hK hw (⟨rfl, rfl⟩) dX0_open_47

set_option maxHeartbeats 4000000 in
set_option maxRecDepth 100000 in
theorem kX0_setShares (l : Launch) (dC : Nat → ClassId) (dI : Nat → Nat → Nat) (ca : Nat → ClassId) (ad : Nat → Nat) (S : sSt) (bb : Nat) (sd : Nat) (hb6 : bb < 6) (hs2 : sd < 2) : ct_V l yX0_setShares (Cond.code yX0_setShares cX0_setShares 5 none :: wa_T) ({ frames := 0, cells := 0, slots := 0, locals := 0 } : Room) (dC, dI) vwCl (tyl ca) (wc ca ad) S [.ref (ad 2), .int (nI bb), .int (nI sd), .ref (ad 50)] (fun S2 => S2 = setSh S (bb * 2 + sd) 6) := by
  refine ct_ofV (by decide) (Nat.le_of_ble_eq_true rfl) ?_
  intro p e s m below meth c A ls hx hb hr hml hts hown hlocks hK hA hw hl
  have hl : lv_has ls 5 [(0, .ref (ad 2)), (1, .int (nI bb)), (2, .int (nI sd)), (3, .ref (ad 50))] := hl
  refine lv_iconst (v := nI 0) hx hb dX0_setShares_0 (by decide) ?_
  refine lv_istore (lv' := [(4, .int (nI 0)), (0, .ref (ad 2)), (1, .int (nI bb)), (2, .int (nI sd)), (3, .ref (ad 50))]) hx hb dX0_setShares_1 hl (by decide) rfl (fun ls hl => ?_)
  have lp_3 : ∀ (n : Nat) (i : Nat), i ≤ 6 → 7 ≤ i + n → ∀ (H : Heap) (locs : List Loc) (ls : Array Slot), wo_w (dC, dI) vwCl A s.heap (wc ca ad (setSh S (bb * 2 + sd) i)) H locs → lv_has ls 5 [(0, .ref (ad 2)), (1, .int (nI bb)), (2, .int (nI sd)), (3, .ref (ad 50)), (4, .int (nI i))] → W p l e ({ frames := 0, cells := 0, slots := 0, locals := 0 } : Room) s m ([.ref (ad 2), .int (nI bb), .int (nI sd), .ref (ad 50)] : List Value).toArray below meth c H locs 0 0 (MQ below (va_Qv (fun S2 => S2 = setSh S (bb * 2 + sd) 6) (ct_B (dC, dI) vwCl (tyl ca) (wc ca ad) A) A) ([.ref (ad 2), .int (nI bb), .int (nI sd), .ref (ad 50)] : List Value).toArray s 0 0 A) (F0 m 3 ls []) := by
    intro n
    induction n with
    | zero =>
      intro i hi hn
      exfalso
      omega
    | succ n ih_3 =>
      intro i hi hn H locs ls hw hl
      refine lv_iload hx hb dX0_setShares_3 (lv_at hl 4 rfl) ?_
      refine lv_bipush (v := nI 6) hx hb dX0_setShares_5 (by decide) ?_
      refine lv_icmp_ge (tgt := 33) hx hb dX0_setShares_7 (by decide) (fun c_1 => ?_) (fun c_1 => ?_)
      · skip
        have c_1 : 6 ≤ i := (nI_leI (a := 6) (b := i) (by omega) (by omega)).mp c_1
        obtain rfl : 6 = i := by omega
        exact ct_vret (S := setSh S (bb * 2 + sd) 6) hx hb hr hlocks hK hw (rfl) dX0_setShares_33
      · skip
        have c_1 : ¬ (6 ≤ i) := fun h9 => c_1 ((nI_leI (a := 6) (b := i) (by omega) (by omega)).mpr h9)
        refine lv_aload_n hx hb dX0_setShares_10 rfl (lv_at hl 0 rfl) ?_
        refine wo_get hx hb hts inX0 hown hK hw 2 rfl rfl 4 (by decide) (hts _ wd_71) (fun _ h9 => h9) rfl dX0_setShares_11 ?_
        refine lv_iload_n hx hb dX0_setShares_14 rfl (lv_at hl 1 rfl) ?_
        refine lv_iconst (v := nI 2) hx hb dX0_setShares_15 (by decide) ?_
        refine lv_imul hx hb dX0_setShares_16 ?_
        refine tp_i (pk_mul bb 2) ?_
        refine lv_iload_n hx hb dX0_setShares_17 rfl (lv_at hl 2 rfl) ?_
        refine lv_iadd hx hb dX0_setShares_18 ?_
        refine tp_i (nI_add (bb * 2) sd) ?_
        refine wo_aald hx hb hK hw 13 3 rfl rfl ((bb * 2) + sd) rfl (by first | assumption | omega) (by decide) (if_pos (by first | assumption | omega)) dX0_setShares_19 ?_
        refine lv_iload hx hb dX0_setShares_20 (lv_at hl 4 rfl) ?_
        refine lv_aload_n hx hb dX0_setShares_22 rfl (lv_at hl 3 rfl) ?_
        refine lv_iload hx hb dX0_setShares_23 (lv_at hl 4 rfl) ?_
        refine wo_lald hx hb hK hw 50 1 rfl rfl i rfl (by first | assumption | omega) (by decide) dX0_setShares_25 ?_
        refine wo_last hx hb hK hw (14 + ((bb * 2) + sd)) 1 (rw_13 ca ad _ ((bb * 2) + sd) (by first | assumption | omega)) rfl i rfl (by first | assumption | omega) (by decide) (se_13 ca ad (setSh S (bb * 2 + sd) i) ((bb * 2) + sd) (by first | assumption | omega) i ((setSh S (bb * 2 + sd) i).2 50 i)) dX0_setShares_26 (fun H locs hw => ?_)
        refine lv_iinc (v := nI (i + 1)) (lv' := [(4, .int (nI (i + 1))), (0, .ref (ad 2)), (1, .int (nI bb)), (2, .int (nI sd)), (3, .ref (ad 50))]) hx hb dX0_setShares_27 hl (k := 4) rfl (nI_inc _) (by decide) rfl (fun ls hl => ?_)
        refine lv_goto (tgt := 3) hx hb dX0_setShares_30 (by decide) ?_
        have e9 : sL (setSh S (bb * 2 + sd) i) (14 + ((bb * 2) + sd)) i ((setSh S (bb * 2 + sd) i).2 50 i) = setSh S (bb * 2 + sd) (i + 1) := rfl
        rw [e9] at hw
        exact ih_3 (i + 1) (by omega) (by omega) _ _ _ hw (lv_sub hl [1, 2, 3, 4, 0] rfl)
  have e9 : S = setSh S (bb * 2 + sd) 0 := rfl
  rw [e9] at hw
  exact lp_3 7 0 (by omega) (by omega) _ _ _ hw (lv_sub hl [1, 2, 3, 4, 0] rfl)

set_option maxHeartbeats 4000000 in
set_option maxRecDepth 100000 in
theorem kX0_shareOf (l : Launch) (dC : Nat → ClassId) (dI : Nat → Nat → Nat) (ca : Nat → ClassId) (ad : Nat → Nat) (S : sSt) (bb : Nat) (sd : Nat) (pp : Nat) (hb6 : bb < 6) (hs2 : sd < 2) (hp6 : pp < 6) : ct_L l yX0_shareOf (Cond.code yX0_shareOf cX0_shareOf 4 (some .long) :: wa_T) ({ frames := 0, cells := 0, slots := 0, locals := 0 } : Room) (dC, dI) vwCl (tyl ca) (wc ca ad) S [.ref (ad 2), .int (nI bb), .int (nI sd), .int (nI pp)] (fun r S2 => r = S.2 (14 + (bb * 2 + sd)) pp ∧ S2 = S) := by
  refine ct_ofL (by decide) (Nat.le_of_ble_eq_true rfl) ?_
  intro p e s m below meth c A ls hx hb hr hml hts hown hlocks hK hA hw hl
  have hl : lv_has ls 4 [(0, .ref (ad 2)), (1, .int (nI bb)), (2, .int (nI sd)), (3, .int (nI pp))] := hl
  refine lv_aload_n hx hb dX0_shareOf_0 rfl (lv_at hl 0 rfl) ?_
  refine wo_get hx hb hts inX0 hown hK hw 2 rfl rfl 4 (by decide) (hts _ wd_71) (fun _ h9 => h9) rfl dX0_shareOf_1 ?_
  refine lv_iload_n hx hb dX0_shareOf_4 rfl (lv_at hl 1 rfl) ?_
  refine lv_iconst (v := nI 2) hx hb dX0_shareOf_5 (by decide) ?_
  refine lv_imul hx hb dX0_shareOf_6 ?_
  refine tp_i (pk_mul bb 2) ?_
  refine lv_iload_n hx hb dX0_shareOf_7 rfl (lv_at hl 2 rfl) ?_
  refine lv_iadd hx hb dX0_shareOf_8 ?_
  refine tp_i (nI_add (bb * 2) sd) ?_
  refine wo_aald hx hb hK hw 13 3 rfl rfl ((bb * 2) + sd) rfl (by first | assumption | omega) (by decide) (if_pos (by first | assumption | omega)) dX0_shareOf_9 ?_
  refine lv_iload_n hx hb dX0_shareOf_10 rfl (lv_at hl 3 rfl) ?_
  refine wo_lald hx hb hK hw (14 + ((bb * 2) + sd)) 1 (rw_13 ca ad _ ((bb * 2) + sd) (by first | assumption | omega)) rfl pp rfl (by first | assumption | omega) (by decide) dX0_shareOf_11 ?_
  exact ct_lret (S := S) (v := S.2 (14 + ((bb * 2) + sd)) pp) hx hb hr hlocks hK hw (⟨rfl, rfl⟩) dX0_shareOf_12

set_option maxHeartbeats 4000000 in
set_option maxRecDepth 100000 in
theorem kX0_addToShare (l : Launch) (dC : Nat → ClassId) (dI : Nat → Nat → Nat) (ca : Nat → ClassId) (ad : Nat → Nat) (S : sSt) (bb : Nat) (sd : Nat) (pp : Nat) (vv : Int64) (hb6 : bb < 6) (hs2 : sd < 2) (hp6 : pp < 6) : ct_V l yX0_addToShare (Cond.code yX0_addToShare cX0_addToShare 6 none :: wa_T) ({ frames := 0, cells := 0, slots := 0, locals := 0 } : Room) (dC, dI) vwCl (tyl ca) (wc ca ad) S [.ref (ad 2), .int (nI bb), .int (nI sd), .int (nI pp), .long vv] (fun S2 => S2 = addSh S (bb * 2 + sd) pp vv) := by
  refine ct_ofV (by decide) (Nat.le_of_ble_eq_true rfl) ?_
  intro p e s m below meth c A ls hx hb hr hml hts hown hlocks hK hA hw hl
  have hl : lv_has ls 6 [(0, .ref (ad 2)), (1, .int (nI bb)), (2, .int (nI sd)), (3, .int (nI pp)), (4, .long vv)] := hl
  refine lv_aload_n hx hb dX0_addToShare_0 rfl (lv_at hl 0 rfl) ?_
  refine wo_get hx hb hts inX0 hown hK hw 2 rfl rfl 4 (by decide) (hts _ wd_71) (fun _ h9 => h9) rfl dX0_addToShare_1 ?_
  refine lv_iload_n hx hb dX0_addToShare_4 rfl (lv_at hl 1 rfl) ?_
  refine lv_iconst (v := nI 2) hx hb dX0_addToShare_5 (by decide) ?_
  refine lv_imul hx hb dX0_addToShare_6 ?_
  refine tp_i (pk_mul bb 2) ?_
  refine lv_iload_n hx hb dX0_addToShare_7 rfl (lv_at hl 2 rfl) ?_
  refine lv_iadd hx hb dX0_addToShare_8 ?_
  refine tp_i (nI_add (bb * 2) sd) ?_
  refine wo_aald hx hb hK hw 13 3 rfl rfl ((bb * 2) + sd) rfl (by first | assumption | omega) (by decide) (if_pos (by first | assumption | omega)) dX0_addToShare_9 ?_
  refine lv_iload_n hx hb dX0_addToShare_10 rfl (lv_at hl 3 rfl) ?_
  refine lv_dup2_11 hx hb dX0_addToShare_11 rfl rfl ?_
  refine wo_lald hx hb hK hw (14 + ((bb * 2) + sd)) 1 (rw_13 ca ad _ ((bb * 2) + sd) (by first | assumption | omega)) rfl pp rfl (by first | assumption | omega) (by decide) dX0_addToShare_12 ?_
  refine lv_lload hx hb dX0_addToShare_13 (lv_at hl 4 rfl) ?_
  refine lv_ladd hx hb dX0_addToShare_15 ?_
  refine wo_last hx hb hK hw (14 + ((bb * 2) + sd)) 1 (rw_13 ca ad _ ((bb * 2) + sd) (by first | assumption | omega)) rfl pp rfl (by first | assumption | omega) (by decide) (se_13 ca ad S ((bb * 2) + sd) (by first | assumption | omega) pp ((S.2 (14 + ((bb * 2) + sd)) pp) + vv)) dX0_addToShare_16 (fun H locs hw => ?_)
  exact ct_vret (S := sL S (14 + ((bb * 2) + sd)) pp ((S.2 (14 + ((bb * 2) + sd)) pp) + vv)) hx hb hr hlocks hK hw (rfl) dX0_addToShare_17

set_option maxHeartbeats 4000000 in
set_option maxRecDepth 100000 in
theorem kX0_emptyShare (l : Launch) (dC : Nat → ClassId) (dI : Nat → Nat → Nat) (ca : Nat → ClassId) (ad : Nat → Nat) (S : sSt) (bb : Nat) (sd : Nat) (pp : Nat) (hb6 : bb < 6) (hs2 : sd < 2) (hp6 : pp < 6) : ct_L l yX0_emptyShare (Cond.code yX0_emptyShare cX0_emptyShare 6 (some .long) :: wa_T) ({ frames := 1, cells := 0, slots := 0, locals := 25 } : Room) (dC, dI) vwCl (tyl ca) (wc ca ad) S [.ref (ad 2), .int (nI bb), .int (nI sd), .int (nI pp)] (fun r S2 => r = S.2 (14 + (bb * 2 + sd)) pp ∧ S2 = addSh S (bb * 2 + sd) pp (-S.2 (14 + (bb * 2 + sd)) pp)) := by
  refine ct_ofL (by decide) (Nat.le_of_ble_eq_true rfl) ?_
  intro p e s m below meth c A ls hx hb hr hml hts hown hlocks hK hA hw hl
  have hl : lv_has ls 6 [(0, .ref (ad 2)), (1, .int (nI bb)), (2, .int (nI sd)), (3, .int (nI pp))] := hl
  refine lv_aload_n hx hb dX0_emptyShare_0 rfl (lv_at hl 0 rfl) ?_
  refine lv_iload_n hx hb dX0_emptyShare_1 rfl (lv_at hl 1 rfl) ?_
  refine lv_iload_n hx hb dX0_emptyShare_2 rfl (lv_at hl 2 rfl) ?_
  refine lv_iload_n hx hb dX0_emptyShare_3 rfl (lv_at hl 3 rfl) ?_
  refine wo_vL (As := [.int (nI bb), .int (nI sd), .int (nI pp)]) (rest := []) (kX0_shareOf l dC dI ca ad S bb sd pp (by first | assumption | omega) (by first | assumption | omega) (by first | assumption | omega)) ⟨hx, hb, hml, hown, hts⟩ (cwV 3 hts (wa_gV wd_218 wd_219 wd_220 wd_4 wd_221) rfl rfl rfl (by decide +kernel) ⟨Nat.le_of_ble_eq_true rfl, Nat.le_of_ble_eq_true rfl⟩) hK hw hA 2 rfl rfl rfl rfl hl.1 rfl (Nat.le_of_ble_eq_true rfl) dX0_emptyShare_4 ⟨Nat.zero_le _, Nat.zero_le _⟩ (fun r_1 S_1 H locs hp_1 hw => ?_)
  have e9 := hp_1.1.symm
  subst e9
  have e9 := hp_1.2.symm
  subst e9
  refine lv_lstore (lv' := [(4, .long (S.2 (14 + (bb * 2 + sd)) pp)), (0, .ref (ad 2)), (1, .int (nI bb)), (2, .int (nI sd)), (3, .int (nI pp))]) hx hb dX0_emptyShare_7 hl (by decide) rfl (fun ls hl => ?_)
  refine lv_aload_n hx hb dX0_emptyShare_9 rfl (lv_at hl 1 rfl) ?_
  refine lv_iload_n hx hb dX0_emptyShare_10 rfl (lv_at hl 2 rfl) ?_
  refine lv_iload_n hx hb dX0_emptyShare_11 rfl (lv_at hl 3 rfl) ?_
  refine lv_iload_n hx hb dX0_emptyShare_12 rfl (lv_at hl 4 rfl) ?_
  refine lv_lload hx hb dX0_emptyShare_13 (lv_at hl 0 rfl) ?_
  refine lv_lneg hx hb dX0_emptyShare_15 ?_
  refine wo_vV (As := [.int (nI bb), .int (nI sd), .int (nI pp), .long (-(S.2 (14 + (bb * 2 + sd)) pp))]) (rest := []) (kX0_addToShare l dC dI ca ad S bb sd pp (-(S.2 (14 + (bb * 2 + sd)) pp)) (by first | assumption | omega) (by first | assumption | omega) (by first | assumption | omega)) ⟨hx, hb, hml, hown, hts⟩ (cwV 4 hts (wa_gV wd_225 wd_226 wd_227 wd_4 wd_228) rfl rfl rfl (by decide +kernel) ⟨Nat.le_of_ble_eq_true rfl, Nat.le_of_ble_eq_true rfl⟩) hK hw hA 2 rfl rfl rfl rfl hl.1 rfl (Nat.le_of_ble_eq_true rfl) dX0_emptyShare_16 ⟨Nat.zero_le _, Nat.zero_le _⟩ (fun S_2 H locs hp_2 hw => ?_)
  have e9 := hp_2.symm
  subst e9
  refine lv_lload hx hb dX0_emptyShare_19 (lv_at hl 0 rfl) ?_
  exact ct_lret (S := addSh S (bb * 2 + sd) pp (-(S.2 (14 + (bb * 2 + sd)) pp))) (v := S.2 (14 + (bb * 2 + sd)) pp) hx hb hr hlocks hK hw (⟨rfl, rfl⟩) dX0_emptyShare_21

set_option maxHeartbeats 4000000 in
set_option maxRecDepth 100000 in
theorem kX0_move (l : Launch) (dC : Nat → ClassId) (dI : Nat → Nat → Nat) (ca : Nat → ClassId) (ad : Nat → Nat) (S : sSt) (bb : Nat) (pp : Nat) (vv : Int64) (hb6 : bb < 6) (hp6 : pp < 6) : ct_I l yX0_move (Cond.code yX0_move cX0_move 7 (some .boolean) :: wa_T) ({ frames := 1, cells := 0, slots := 0, locals := 25 } : Room) (dC, dI) vwCl (tyl ca) (wc ca ad) S [.ref (ad 2), .int (nI bb), .int (nI pp), .long vv] (fun r S2 => r = bI (mvOk S bb pp vv) ∧ S2 = if mvOk S bb pp vv = true then mvS S bb pp vv else S) := by
  refine ct_ofI (by decide) (Nat.le_of_ble_eq_true rfl) ?_
  intro p e s m below meth c A ls hx hb hr hml hts hown hlocks hK hA hw hl
  have hl : lv_has ls 7 [(0, .ref (ad 2)), (1, .int (nI bb)), (2, .int (nI pp)), (3, .long vv)] := hl
  refine lv_lload_n hx hb dX0_move_0 rfl (lv_at hl 3 rfl) ?_
  refine lv_lconst (v := 0) hx hb dX0_move_1 (by decide) ?_
  refine lc_le (tgt := 16) hx hb dX0_move_2 dX0_move_3 (by decide) (fun c_1 => ?_) (fun c_1 => ?_)
  · skip
    refine lv_aload_n hx hb dX0_move_16 rfl (lv_at hl 0 rfl) ?_
    refine lv_iload_n hx hb dX0_move_17 rfl (lv_at hl 1 rfl) ?_
    refine lv_iconst (v := nI 1) hx hb dX0_move_18 (by decide) ?_
    refine lv_iload_n hx hb dX0_move_19 rfl (lv_at hl 2 rfl) ?_
    refine wo_vL (As := [.int (nI bb), .int (nI 1), .int (nI pp)]) (rest := []) (kX0_shareOf l dC dI ca ad S bb 1 pp (by first | assumption | omega) (by first | assumption | omega) (by first | assumption | omega)) ⟨hx, hb, hml, hown, hts⟩ (cwV 3 hts (wa_gV wd_218 wd_219 wd_220 wd_4 wd_221) rfl rfl rfl (by decide +kernel) ⟨Nat.le_of_ble_eq_true rfl, Nat.le_of_ble_eq_true rfl⟩) hK hw hA 2 rfl rfl rfl rfl hl.1 rfl (Nat.le_of_ble_eq_true rfl) dX0_move_20 ⟨Nat.zero_le _, Nat.zero_le _⟩ (fun r_2 S_2 H locs hp_2 hw => ?_)
    have e9 := hp_2.1.symm
    subst e9
    have e9 := hp_2.2.symm
    subst e9
    refine lv_lstore (lv' := [(5, .long (S.2 (14 + (bb * 2 + 1)) pp)), (0, .ref (ad 2)), (1, .int (nI bb)), (2, .int (nI pp)), (3, .long vv)]) hx hb dX0_move_23 hl (by decide) rfl (fun ls hl => ?_)
    refine lv_lload hx hb dX0_move_25 (lv_at hl 0 rfl) ?_
    refine lv_lload_n hx hb dX0_move_27 rfl (lv_at hl 4 rfl) ?_
    refine va_mabs_long hx hb (hml.trans hl.1.symm) hown (hts _ wd_222) (hts _ wd_223) (hts _ wd_15) (hts _ wd_224) (Nat.le_of_ble_eq_true rfl) (Nat.le_of_ble_eq_true rfl) (Nat.zero_le _) (Nat.zero_le _) dX0_move_28 ?_
    refine lc_ge (tgt := 37) hx hb dX0_move_31 dX0_move_32 (by decide) (fun c_3 => ?_) (fun c_3 => ?_)
    · skip
      refine lv_aload_n hx hb dX0_move_37 rfl (lv_at hl 1 rfl) ?_
      refine lv_iload_n hx hb dX0_move_38 rfl (lv_at hl 2 rfl) ?_
      refine lv_iconst (v := nI 0) hx hb dX0_move_39 (by decide) ?_
      refine lv_iload_n hx hb dX0_move_40 rfl (lv_at hl 3 rfl) ?_
      refine lv_lload_n hx hb dX0_move_41 rfl (lv_at hl 4 rfl) ?_
      refine lv_lneg hx hb dX0_move_42 ?_
      refine wo_vV (As := [.int (nI bb), .int (nI 0), .int (nI pp), .long (-vv)]) (rest := []) (kX0_addToShare l dC dI ca ad S bb 0 pp (-vv) (by first | assumption | omega) (by first | assumption | omega) (by first | assumption | omega)) ⟨hx, hb, hml, hown, hts⟩ (cwV 4 hts (wa_gV wd_225 wd_226 wd_227 wd_4 wd_228) rfl rfl rfl (by decide +kernel) ⟨Nat.le_of_ble_eq_true rfl, Nat.le_of_ble_eq_true rfl⟩) hK hw hA 2 rfl rfl rfl rfl hl.1 rfl (Nat.le_of_ble_eq_true rfl) dX0_move_43 ⟨Nat.zero_le _, Nat.zero_le _⟩ (fun S_4 H locs hp_4 hw => ?_)
      have e9 := hp_4.symm
      subst e9
      refine lv_aload_n hx hb dX0_move_46 rfl (lv_at hl 1 rfl) ?_
      refine lv_iload_n hx hb dX0_move_47 rfl (lv_at hl 2 rfl) ?_
      refine lv_iconst (v := nI 1) hx hb dX0_move_48 (by decide) ?_
      refine lv_iload_n hx hb dX0_move_49 rfl (lv_at hl 3 rfl) ?_
      refine lv_lload_n hx hb dX0_move_50 rfl (lv_at hl 4 rfl) ?_
      refine wo_vV (As := [.int (nI bb), .int (nI 1), .int (nI pp), .long vv]) (rest := []) (kX0_addToShare l dC dI ca ad (addSh S (bb * 2 + 0) pp (-vv)) bb 1 pp vv (by first | assumption | omega) (by first | assumption | omega) (by first | assumption | omega)) ⟨hx, hb, hml, hown, hts⟩ (cwV 4 hts (wa_gV wd_225 wd_226 wd_227 wd_4 wd_228) rfl rfl rfl (by decide +kernel) ⟨Nat.le_of_ble_eq_true rfl, Nat.le_of_ble_eq_true rfl⟩) hK hw hA 2 rfl rfl rfl rfl hl.1 rfl (Nat.le_of_ble_eq_true rfl) dX0_move_51 ⟨Nat.zero_le _, Nat.zero_le _⟩ (fun S_5 H locs hp_5 hw => ?_)
      have e9 := hp_5.symm
      subst e9
      refine lv_aload_n hx hb dX0_move_54 rfl (lv_at hl 1 rfl) ?_
      refine wo_get hx hb hts inX0 hown hK hw 2 rfl rfl 2 (by decide) (hts _ wd_67) (fun _ h9 => h9) rfl dX0_move_55 ?_
      refine lv_iload_n hx hb dX0_move_58 rfl (lv_at hl 2 rfl) ?_
      refine lv_dup2_11 hx hb dX0_move_59 rfl rfl ?_
      refine wo_lald hx hb hK hw 11 1 rfl rfl bb rfl (by first | assumption | omega) (by decide) dX0_move_60 ?_
      refine lv_lload_n hx hb dX0_move_61 rfl (lv_at hl 4 rfl) ?_
      refine lv_lsub hx hb dX0_move_62 ?_
      refine wo_last hx hb hK hw 11 1 rfl rfl bb rfl (by first | assumption | omega) (by decide) (se_11 ca ad (addSh (addSh S (bb * 2 + 0) pp (-vv)) (bb * 2 + 1) pp vv) bb (((addSh (addSh S (bb * 2 + 0) pp (-vv)) (bb * 2 + 1) pp vv).2 11 bb) - vv)) dX0_move_63 (fun H locs hw => ?_)
      refine lv_iconst (v := nI 1) hx hb dX0_move_64 (by decide) ?_
      exact ct_zret (S := sL (addSh (addSh S (bb * 2 + 0) pp (-vv)) (bb * 2 + 1) pp vv) 11 bb (((addSh (addSh S (bb * 2 + 0) pp (-vv)) (bb * 2 + 1) pp vv).2 11 bb) - vv)) (v := nI 1) hx hb hr hlocks hK (by first | decide | exact nb_z _) hw (⟨by simp only [bI, mvOk, c_1, c_3, decide_true, decide_false, Bool.not_true, Bool.not_false, Bool.true_and, Bool.and_true, Bool.false_and, Bool.and_false, Bool.or_true, Bool.true_or, Bool.or_false, Bool.false_or, Bool.false_eq_true, Bool.true_eq_false, if_true, if_false, ↓reduceIte], by simp only [mvOk, mvS, c_1, c_3, decide_true, decide_false, Bool.not_true, Bool.not_false, Bool.true_and, Bool.and_true, Bool.false_and, Bool.and_false, Bool.or_true, Bool.true_or, Bool.or_false, Bool.false_or, Bool.false_eq_true, Bool.true_eq_false, if_true, if_false, ↓reduceIte]⟩) dX0_move_65
    · skip
      refine lv_iconst (v := nI 0) hx hb dX0_move_35 (by decide) ?_
      exact ct_zret (S := S) (v := nI 0) hx hb hr hlocks hK (by first | decide | exact nb_z _) hw (⟨by simp only [bI, mvOk, c_1, c_3, decide_true, decide_false, Bool.not_true, Bool.not_false, Bool.true_and, Bool.and_true, Bool.false_and, Bool.and_false, Bool.or_true, Bool.true_or, Bool.or_false, Bool.false_or, Bool.false_eq_true, Bool.true_eq_false, if_true, if_false, ↓reduceIte], by simp only [mvOk, mvS, c_1, c_3, decide_true, decide_false, Bool.not_true, Bool.not_false, Bool.true_and, Bool.and_true, Bool.false_and, Bool.and_false, Bool.or_true, Bool.true_or, Bool.or_false, Bool.false_or, Bool.false_eq_true, Bool.true_eq_false, if_true, if_false, ↓reduceIte]⟩) dX0_move_36
  · skip
    refine lv_aload_n hx hb dX0_move_6 rfl (lv_at hl 0 rfl) ?_
    refine lv_iload_n hx hb dX0_move_7 rfl (lv_at hl 1 rfl) ?_
    refine lv_iconst (v := nI 0) hx hb dX0_move_8 (by decide) ?_
    refine lv_iload_n hx hb dX0_move_9 rfl (lv_at hl 2 rfl) ?_
    refine wo_vL (As := [.int (nI bb), .int (nI 0), .int (nI pp)]) (rest := []) (kX0_shareOf l dC dI ca ad S bb 0 pp (by first | assumption | omega) (by first | assumption | omega) (by first | assumption | omega)) ⟨hx, hb, hml, hown, hts⟩ (cwV 3 hts (wa_gV wd_218 wd_219 wd_220 wd_4 wd_221) rfl rfl rfl (by decide +kernel) ⟨Nat.le_of_ble_eq_true rfl, Nat.le_of_ble_eq_true rfl⟩) hK hw hA 2 rfl rfl rfl rfl hl.1 rfl (Nat.le_of_ble_eq_true rfl) dX0_move_10 ⟨Nat.zero_le _, Nat.zero_le _⟩ (fun r_6 S_6 H locs hp_6 hw => ?_)
    have e9 := hp_6.1.symm
    subst e9
    have e9 := hp_6.2.symm
    subst e9
    refine lv_goto (tgt := 23) hx hb dX0_move_13 (by decide) ?_
    refine lv_lstore (lv' := [(5, .long (S.2 (14 + (bb * 2 + 0)) pp)), (0, .ref (ad 2)), (1, .int (nI bb)), (2, .int (nI pp)), (3, .long vv)]) hx hb dX0_move_23 hl (by decide) rfl (fun ls hl => ?_)
    refine lv_lload hx hb dX0_move_25 (lv_at hl 0 rfl) ?_
    refine lv_lload_n hx hb dX0_move_27 rfl (lv_at hl 4 rfl) ?_
    refine va_mabs_long hx hb (hml.trans hl.1.symm) hown (hts _ wd_222) (hts _ wd_223) (hts _ wd_15) (hts _ wd_224) (Nat.le_of_ble_eq_true rfl) (Nat.le_of_ble_eq_true rfl) (Nat.zero_le _) (Nat.zero_le _) dX0_move_28 ?_
    refine lc_ge (tgt := 37) hx hb dX0_move_31 dX0_move_32 (by decide) (fun c_7 => ?_) (fun c_7 => ?_)
    · skip
      refine lv_aload_n hx hb dX0_move_37 rfl (lv_at hl 1 rfl) ?_
      refine lv_iload_n hx hb dX0_move_38 rfl (lv_at hl 2 rfl) ?_
      refine lv_iconst (v := nI 0) hx hb dX0_move_39 (by decide) ?_
      refine lv_iload_n hx hb dX0_move_40 rfl (lv_at hl 3 rfl) ?_
      refine lv_lload_n hx hb dX0_move_41 rfl (lv_at hl 4 rfl) ?_
      refine lv_lneg hx hb dX0_move_42 ?_
      refine wo_vV (As := [.int (nI bb), .int (nI 0), .int (nI pp), .long (-vv)]) (rest := []) (kX0_addToShare l dC dI ca ad S bb 0 pp (-vv) (by first | assumption | omega) (by first | assumption | omega) (by first | assumption | omega)) ⟨hx, hb, hml, hown, hts⟩ (cwV 4 hts (wa_gV wd_225 wd_226 wd_227 wd_4 wd_228) rfl rfl rfl (by decide +kernel) ⟨Nat.le_of_ble_eq_true rfl, Nat.le_of_ble_eq_true rfl⟩) hK hw hA 2 rfl rfl rfl rfl hl.1 rfl (Nat.le_of_ble_eq_true rfl) dX0_move_43 ⟨Nat.zero_le _, Nat.zero_le _⟩ (fun S_8 H locs hp_8 hw => ?_)
      have e9 := hp_8.symm
      subst e9
      refine lv_aload_n hx hb dX0_move_46 rfl (lv_at hl 1 rfl) ?_
      refine lv_iload_n hx hb dX0_move_47 rfl (lv_at hl 2 rfl) ?_
      refine lv_iconst (v := nI 1) hx hb dX0_move_48 (by decide) ?_
      refine lv_iload_n hx hb dX0_move_49 rfl (lv_at hl 3 rfl) ?_
      refine lv_lload_n hx hb dX0_move_50 rfl (lv_at hl 4 rfl) ?_
      refine wo_vV (As := [.int (nI bb), .int (nI 1), .int (nI pp), .long vv]) (rest := []) (kX0_addToShare l dC dI ca ad (addSh S (bb * 2 + 0) pp (-vv)) bb 1 pp vv (by first | assumption | omega) (by first | assumption | omega) (by first | assumption | omega)) ⟨hx, hb, hml, hown, hts⟩ (cwV 4 hts (wa_gV wd_225 wd_226 wd_227 wd_4 wd_228) rfl rfl rfl (by decide +kernel) ⟨Nat.le_of_ble_eq_true rfl, Nat.le_of_ble_eq_true rfl⟩) hK hw hA 2 rfl rfl rfl rfl hl.1 rfl (Nat.le_of_ble_eq_true rfl) dX0_move_51 ⟨Nat.zero_le _, Nat.zero_le _⟩ (fun S_9 H locs hp_9 hw => ?_)
      have e9 := hp_9.symm
      subst e9
      refine lv_aload_n hx hb dX0_move_54 rfl (lv_at hl 1 rfl) ?_
      refine wo_get hx hb hts inX0 hown hK hw 2 rfl rfl 2 (by decide) (hts _ wd_67) (fun _ h9 => h9) rfl dX0_move_55 ?_
      refine lv_iload_n hx hb dX0_move_58 rfl (lv_at hl 2 rfl) ?_
      refine lv_dup2_11 hx hb dX0_move_59 rfl rfl ?_
      refine wo_lald hx hb hK hw 11 1 rfl rfl bb rfl (by first | assumption | omega) (by decide) dX0_move_60 ?_
      refine lv_lload_n hx hb dX0_move_61 rfl (lv_at hl 4 rfl) ?_
      refine lv_lsub hx hb dX0_move_62 ?_
      refine wo_last hx hb hK hw 11 1 rfl rfl bb rfl (by first | assumption | omega) (by decide) (se_11 ca ad (addSh (addSh S (bb * 2 + 0) pp (-vv)) (bb * 2 + 1) pp vv) bb (((addSh (addSh S (bb * 2 + 0) pp (-vv)) (bb * 2 + 1) pp vv).2 11 bb) - vv)) dX0_move_63 (fun H locs hw => ?_)
      refine lv_iconst (v := nI 1) hx hb dX0_move_64 (by decide) ?_
      exact ct_zret (S := sL (addSh (addSh S (bb * 2 + 0) pp (-vv)) (bb * 2 + 1) pp vv) 11 bb (((addSh (addSh S (bb * 2 + 0) pp (-vv)) (bb * 2 + 1) pp vv).2 11 bb) - vv)) (v := nI 1) hx hb hr hlocks hK (by first | decide | exact nb_z _) hw (⟨by simp only [bI, mvOk, c_1, c_7, decide_true, decide_false, Bool.not_true, Bool.not_false, Bool.true_and, Bool.and_true, Bool.false_and, Bool.and_false, Bool.or_true, Bool.true_or, Bool.or_false, Bool.false_or, Bool.false_eq_true, Bool.true_eq_false, if_true, if_false, ↓reduceIte], by simp only [mvOk, mvS, c_1, c_7, decide_true, decide_false, Bool.not_true, Bool.not_false, Bool.true_and, Bool.and_true, Bool.false_and, Bool.and_false, Bool.or_true, Bool.true_or, Bool.or_false, Bool.false_or, Bool.false_eq_true, Bool.true_eq_false, if_true, if_false, ↓reduceIte]⟩) dX0_move_65
    · skip
      refine lv_iconst (v := nI 0) hx hb dX0_move_35 (by decide) ?_
      exact ct_zret (S := S) (v := nI 0) hx hb hr hlocks hK (by first | decide | exact nb_z _) hw (⟨by simp only [bI, mvOk, c_1, c_7, decide_true, decide_false, Bool.not_true, Bool.not_false, Bool.true_and, Bool.and_true, Bool.false_and, Bool.and_false, Bool.or_true, Bool.true_or, Bool.or_false, Bool.false_or, Bool.false_eq_true, Bool.true_eq_false, if_true, if_false, ↓reduceIte], by simp only [mvOk, mvS, c_1, c_7, decide_true, decide_false, Bool.not_true, Bool.not_false, Bool.true_and, Bool.and_true, Bool.false_and, Bool.and_false, Bool.or_true, Bool.true_or, Bool.or_false, Bool.false_or, Bool.false_eq_true, Bool.true_eq_false, if_true, if_false, ↓reduceIte]⟩) dX0_move_36
end
section
theorem dX2_append_0 : decode cX2_append 0 = .ok (.aload_n 0, 1) := by decide +kernel
theorem dX2_append_1 : decode cX2_append 1 = .ok (.getfield 9, 3) := by decide +kernel
theorem dX2_append_4 : decode cX2_append 4 = .ok (.iload_n 1, 1) := by decide +kernel
theorem dX2_append_5 : decode cX2_append 5 = .ok (.iaload, 1) := by decide +kernel
theorem dX2_append_6 : decode cX2_append 6 = .ok (.istore 5, 2) := by decide +kernel
theorem dX2_append_8 : decode cX2_append 8 = .ok (.iload 5, 2) := by decide +kernel
theorem dX2_append_10 : decode cX2_append 10 = .ok (.bipush 8, 2) := by decide +kernel
theorem dX2_append_12 : decode cX2_append 12 = .ok (.if_icmp .lt 5, 3) := by decide +kernel
theorem dX2_append_15 : decode cX2_append 15 = .ok (.iconst 0, 1) := by decide +kernel
theorem dX2_append_16 : decode cX2_append 16 = .ok (.ireturn, 1) := by decide +kernel
theorem dX2_append_17 : decode cX2_append 17 = .ok (.aload_n 0, 1) := by decide +kernel
theorem dX2_append_18 : decode cX2_append 18 = .ok (.getfield 17, 3) := by decide +kernel
theorem dX2_append_21 : decode cX2_append 21 = .ok (.iload_n 1, 1) := by decide +kernel
theorem dX2_append_22 : decode cX2_append 22 = .ok (.aaload, 1) := by decide +kernel
theorem dX2_append_23 : decode cX2_append 23 = .ok (.iload 5, 2) := by decide +kernel
theorem dX2_append_25 : decode cX2_append 25 = .ok (.iload_n 2, 1) := by decide +kernel
theorem dX2_append_26 : decode cX2_append 26 = .ok (.iastore, 1) := by decide +kernel
theorem dX2_append_27 : decode cX2_append 27 = .ok (.aload_n 0, 1) := by decide +kernel
theorem dX2_append_28 : decode cX2_append 28 = .ok (.getfield 22, 3) := by decide +kernel
theorem dX2_append_31 : decode cX2_append 31 = .ok (.iload_n 1, 1) := by decide +kernel
theorem dX2_append_32 : decode cX2_append 32 = .ok (.aaload, 1) := by decide +kernel
theorem dX2_append_33 : decode cX2_append 33 = .ok (.iload 5, 2) := by decide +kernel
theorem dX2_append_35 : decode cX2_append 35 = .ok (.lload_n 3, 1) := by decide +kernel
theorem dX2_append_36 : decode cX2_append 36 = .ok (.lastore, 1) := by decide +kernel
theorem dX2_append_37 : decode cX2_append 37 = .ok (.aload_n 0, 1) := by decide +kernel
theorem dX2_append_38 : decode cX2_append 38 = .ok (.getfield 9, 3) := by decide +kernel
theorem dX2_append_41 : decode cX2_append 41 = .ok (.iload_n 1, 1) := by decide +kernel
theorem dX2_append_42 : decode cX2_append 42 = .ok (.dup2, 1) := by decide +kernel
theorem dX2_append_43 : decode cX2_append 43 = .ok (.iaload, 1) := by decide +kernel
theorem dX2_append_44 : decode cX2_append 44 = .ok (.iconst 1, 1) := by decide +kernel
theorem dX2_append_45 : decode cX2_append 45 = .ok (.iadd, 1) := by decide +kernel
theorem dX2_append_46 : decode cX2_append 46 = .ok (.iastore, 1) := by decide +kernel
theorem dX2_append_47 : decode cX2_append 47 = .ok (.iconst 1, 1) := by decide +kernel
theorem dX2_append_48 : decode cX2_append 48 = .ok (.ireturn, 1) := by decide +kernel

theorem dX2_removeFirst_0 : decode cX2_removeFirst 0 = .ok (.iconst 1, 1) := by decide +kernel
theorem dX2_removeFirst_1 : decode cX2_removeFirst 1 = .ok (.istore_n 2, 1) := by decide +kernel
theorem dX2_removeFirst_2 : decode cX2_removeFirst 2 = .ok (.iload_n 2, 1) := by decide +kernel
theorem dX2_removeFirst_3 : decode cX2_removeFirst 3 = .ok (.aload_n 0, 1) := by decide +kernel
theorem dX2_removeFirst_4 : decode cX2_removeFirst 4 = .ok (.getfield 9, 3) := by decide +kernel
theorem dX2_removeFirst_7 : decode cX2_removeFirst 7 = .ok (.iload_n 1, 1) := by decide +kernel
theorem dX2_removeFirst_8 : decode cX2_removeFirst 8 = .ok (.iaload, 1) := by decide +kernel
theorem dX2_removeFirst_9 : decode cX2_removeFirst 9 = .ok (.if_icmp .ge 45, 3) := by decide +kernel
theorem dX2_removeFirst_12 : decode cX2_removeFirst 12 = .ok (.aload_n 0, 1) := by decide +kernel
theorem dX2_removeFirst_13 : decode cX2_removeFirst 13 = .ok (.getfield 17, 3) := by decide +kernel
theorem dX2_removeFirst_16 : decode cX2_removeFirst 16 = .ok (.iload_n 1, 1) := by decide +kernel
theorem dX2_removeFirst_17 : decode cX2_removeFirst 17 = .ok (.aaload, 1) := by decide +kernel
theorem dX2_removeFirst_18 : decode cX2_removeFirst 18 = .ok (.iload_n 2, 1) := by decide +kernel
theorem dX2_removeFirst_19 : decode cX2_removeFirst 19 = .ok (.iconst 1, 1) := by decide +kernel
theorem dX2_removeFirst_20 : decode cX2_removeFirst 20 = .ok (.isub, 1) := by decide +kernel
theorem dX2_removeFirst_21 : decode cX2_removeFirst 21 = .ok (.aload_n 0, 1) := by decide +kernel
theorem dX2_removeFirst_22 : decode cX2_removeFirst 22 = .ok (.getfield 17, 3) := by decide +kernel
theorem dX2_removeFirst_25 : decode cX2_removeFirst 25 = .ok (.iload_n 1, 1) := by decide +kernel
theorem dX2_removeFirst_26 : decode cX2_removeFirst 26 = .ok (.aaload, 1) := by decide +kernel
theorem dX2_removeFirst_27 : decode cX2_removeFirst 27 = .ok (.iload_n 2, 1) := by decide +kernel
theorem dX2_removeFirst_28 : decode cX2_removeFirst 28 = .ok (.iaload, 1) := by decide +kernel
theorem dX2_removeFirst_29 : decode cX2_removeFirst 29 = .ok (.iastore, 1) := by decide +kernel
theorem dX2_removeFirst_30 : decode cX2_removeFirst 30 = .ok (.aload_n 0, 1) := by decide +kernel
theorem dX2_removeFirst_31 : decode cX2_removeFirst 31 = .ok (.getfield 22, 3) := by decide +kernel
theorem dX2_removeFirst_34 : decode cX2_removeFirst 34 = .ok (.iload_n 1, 1) := by decide +kernel
theorem dX2_removeFirst_35 : decode cX2_removeFirst 35 = .ok (.aaload, 1) := by decide +kernel
theorem dX2_removeFirst_36 : decode cX2_removeFirst 36 = .ok (.iload_n 2, 1) := by decide +kernel
theorem dX2_removeFirst_37 : decode cX2_removeFirst 37 = .ok (.iconst 1, 1) := by decide +kernel
theorem dX2_removeFirst_38 : decode cX2_removeFirst 38 = .ok (.isub, 1) := by decide +kernel
theorem dX2_removeFirst_39 : decode cX2_removeFirst 39 = .ok (.aload_n 0, 1) := by decide +kernel
theorem dX2_removeFirst_40 : decode cX2_removeFirst 40 = .ok (.getfield 22, 3) := by decide +kernel
theorem dX2_removeFirst_43 : decode cX2_removeFirst 43 = .ok (.iload_n 1, 1) := by decide +kernel
theorem dX2_removeFirst_44 : decode cX2_removeFirst 44 = .ok (.aaload, 1) := by decide +kernel
theorem dX2_removeFirst_45 : decode cX2_removeFirst 45 = .ok (.iload_n 2, 1) := by decide +kernel
theorem dX2_removeFirst_46 : decode cX2_removeFirst 46 = .ok (.laload, 1) := by decide +kernel
theorem dX2_removeFirst_47 : decode cX2_removeFirst 47 = .ok (.lastore, 1) := by decide +kernel
theorem dX2_removeFirst_48 : decode cX2_removeFirst 48 = .ok (.iinc 2 1, 3) := by decide +kernel
theorem dX2_removeFirst_51 : decode cX2_removeFirst 51 = .ok (.goto (-49), 3) := by decide +kernel
theorem dX2_removeFirst_54 : decode cX2_removeFirst 54 = .ok (.aload_n 0, 1) := by decide +kernel
theorem dX2_removeFirst_55 : decode cX2_removeFirst 55 = .ok (.getfield 9, 3) := by decide +kernel
theorem dX2_removeFirst_58 : decode cX2_removeFirst 58 = .ok (.iload_n 1, 1) := by decide +kernel
theorem dX2_removeFirst_59 : decode cX2_removeFirst 59 = .ok (.dup2, 1) := by decide +kernel
theorem dX2_removeFirst_60 : decode cX2_removeFirst 60 = .ok (.iaload, 1) := by decide +kernel
theorem dX2_removeFirst_61 : decode cX2_removeFirst 61 = .ok (.iconst 1, 1) := by decide +kernel
theorem dX2_removeFirst_62 : decode cX2_removeFirst 62 = .ok (.isub, 1) := by decide +kernel
theorem dX2_removeFirst_63 : decode cX2_removeFirst 63 = .ok (.iastore, 1) := by decide +kernel
theorem dX2_removeFirst_64 : decode cX2_removeFirst 64 = .ok (.return_, 1) := by decide +kernel

theorem dX2_clear_0 : decode cX2_clear 0 = .ok (.aload_n 0, 1) := by decide +kernel
theorem dX2_clear_1 : decode cX2_clear 1 = .ok (.getfield 9, 3) := by decide +kernel
theorem dX2_clear_4 : decode cX2_clear 4 = .ok (.iload_n 1, 1) := by decide +kernel
theorem dX2_clear_5 : decode cX2_clear 5 = .ok (.iconst 0, 1) := by decide +kernel
theorem dX2_clear_6 : decode cX2_clear 6 = .ok (.iastore, 1) := by decide +kernel
theorem dX2_clear_7 : decode cX2_clear 7 = .ok (.return_, 1) := by decide +kernel

set_option maxHeartbeats 4000000 in
set_option maxRecDepth 100000 in
theorem kX2_append (l : Launch) (dC : Nat → ClassId) (dI : Nat → Nat → Nat) (ca : Nat → ClassId) (ad : Nat → Nat) (S : sSt) (pp : Nat) (bb : Nat) (vv : Int64) (kq : Nat) (hp6 : pp < 6) (hk8 : kq ≤ 8) (hq : S.1 34 pp = nI kq) : ct_I l yX2_append (Cond.code yX2_append cX2_append 6 (some .boolean) :: wa_T) ({ frames := 0, cells := 0, slots := 0, locals := 0 } : Room) (dC, dI) vwCl (tyl ca) (wc ca ad) S [.ref (ad 4), .int (nI pp), .int (nI bb), .long vv] (fun r S2 => r = bI (decide (kq < 8)) ∧ S2 = if kq < 8 then qapp S pp kq bb vv else S) := by
  refine ct_ofI (by decide) (Nat.le_of_ble_eq_true rfl) ?_
  intro p e s m below meth c A ls hx hb hr hml hts hown hlocks hK hA hw hl
  have hl : lv_has ls 6 [(0, .ref (ad 4)), (1, .int (nI pp)), (2, .int (nI bb)), (3, .long vv)] := hl
  refine lv_aload_n hx hb dX2_append_0 rfl (lv_at hl 0 rfl) ?_
  refine wo_get hx hb hts inX2 hown hK hw 4 rfl rfl 0 (by decide) (hts _ wd_135) (fun _ h9 => h9) rfl dX2_append_1 ?_
  refine lv_iload_n hx hb dX2_append_4 rfl (lv_at hl 1 rfl) ?_
  refine wo_iald hx hb hK hw 34 0 rfl rfl pp rfl (by first | assumption | omega) (by decide) dX2_append_5 ?_
  refine tp_i (y := nI kq) (hq) ?_
  refine lv_istore (lv' := [(5, .int (nI kq)), (0, .ref (ad 4)), (1, .int (nI pp)), (2, .int (nI bb)), (3, .long vv)]) hx hb dX2_append_6 hl (by decide) rfl (fun ls hl => ?_)
  refine lv_iload hx hb dX2_append_8 (lv_at hl 0 rfl) ?_
  refine lv_bipush (v := nI 8) hx hb dX2_append_10 (by decide) ?_
  refine lv_icmp_lt (tgt := 17) hx hb dX2_append_12 (by decide) (fun c_1 => ?_) (fun c_1 => ?_)
  · skip
    have c_1 : kq < 8 := (nI_ltI (a := kq) (b := 8) (by omega) (by omega)).mp c_1
    refine lv_aload_n hx hb dX2_append_17 rfl (lv_at hl 1 rfl) ?_
    refine wo_get hx hb hts inX2 hown hK hw 4 rfl rfl 1 (by decide) (hts _ wd_137) (fun _ h9 => h9) rfl dX2_append_18 ?_
    refine lv_iload_n hx hb dX2_append_21 rfl (lv_at hl 2 rfl) ?_
    refine wo_aald hx hb hK hw 35 4 rfl rfl pp rfl (by first | assumption | omega) (by decide) (if_pos (by first | assumption | omega)) dX2_append_22 ?_
    refine lv_iload hx hb dX2_append_23 (lv_at hl 0 rfl) ?_
    refine lv_iload_n hx hb dX2_append_25 rfl (lv_at hl 3 rfl) ?_
    refine wo_iast hx hb hK hw (36 + pp) 0 (rw_35 ca ad _ pp (by first | assumption | omega)) rfl kq rfl (by first | assumption | omega) (by decide) (se_35 ca ad S pp (by first | assumption | omega) kq (nI bb)) dX2_append_26 (fun H locs hw => ?_)
    refine lv_aload_n hx hb dX2_append_27 rfl (lv_at hl 1 rfl) ?_
    refine wo_get hx hb hts inX2 hown hK hw 4 rfl rfl 2 (by decide) (hts _ wd_139) (fun _ h9 => h9) rfl dX2_append_28 ?_
    refine lv_iload_n hx hb dX2_append_31 rfl (lv_at hl 2 rfl) ?_
    refine wo_aald hx hb hK hw 42 3 rfl rfl pp rfl (by first | assumption | omega) (by decide) (if_pos (by first | assumption | omega)) dX2_append_32 ?_
    refine lv_iload hx hb dX2_append_33 (lv_at hl 0 rfl) ?_
    refine lv_lload_n hx hb dX2_append_35 rfl (lv_at hl 4 rfl) ?_
    refine wo_last hx hb hK hw (43 + pp) 1 (rw_42 ca ad _ pp (by first | assumption | omega)) rfl kq rfl (by first | assumption | omega) (by decide) (se_42 ca ad (sI S (36 + pp) kq (nI bb)) pp (by first | assumption | omega) kq vv) dX2_append_36 (fun H locs hw => ?_)
    refine lv_aload_n hx hb dX2_append_37 rfl (lv_at hl 1 rfl) ?_
    refine wo_get hx hb hts inX2 hown hK hw 4 rfl rfl 0 (by decide) (hts _ wd_135) (fun _ h9 => h9) rfl dX2_append_38 ?_
    refine lv_iload_n hx hb dX2_append_41 rfl (lv_at hl 2 rfl) ?_
    refine lv_dup2_11 hx hb dX2_append_42 rfl rfl ?_
    refine wo_iald hx hb hK hw 34 0 rfl rfl pp rfl (by first | assumption | omega) (by decide) dX2_append_43 ?_
    refine tp_i (y := nI kq) (by rw [sL_1, sI_1, if_neg (by omega)]; exact hq) ?_
    refine lv_iconst (v := nI 1) hx hb dX2_append_44 (by decide) ?_
    refine lv_iadd hx hb dX2_append_45 ?_
    refine tp_i (nI_add kq 1) ?_
    refine wo_iast hx hb hK hw 34 0 rfl rfl pp rfl (by first | assumption | omega) (by decide) (se_34 ca ad (sL (sI S (36 + pp) kq (nI bb)) (43 + pp) kq vv) pp (nI (kq + 1))) dX2_append_46 (fun H locs hw => ?_)
    refine lv_iconst (v := nI 1) hx hb dX2_append_47 (by decide) ?_
    exact ct_zret (S := sI (sL (sI S (36 + pp) kq (nI bb)) (43 + pp) kq vv) 34 pp (nI (kq + 1))) (v := nI 1) hx hb hr hlocks hK (by first | decide | exact nb_z _) hw (⟨by simp only [bI, c_1, decide_true, decide_false, Bool.not_true, Bool.not_false, Bool.true_and, Bool.and_true, Bool.false_and, Bool.and_false, Bool.or_true, Bool.true_or, Bool.or_false, Bool.false_or, Bool.false_eq_true, Bool.true_eq_false, if_true, if_false, ↓reduceIte], by first | (rw [if_pos c_1]; rfl) | (rw [if_neg c_1])⟩) dX2_append_48
  · skip
    have c_1 : ¬ (kq < 8) := fun h9 => c_1 ((nI_ltI (a := kq) (b := 8) (by omega) (by omega)).mpr h9)
    refine lv_iconst (v := nI 0) hx hb dX2_append_15 (by decide) ?_
    exact ct_zret (S := S) (v := nI 0) hx hb hr hlocks hK (by first | decide | exact nb_z _) hw (⟨by simp only [bI, c_1, decide_true, decide_false, Bool.not_true, Bool.not_false, Bool.true_and, Bool.and_true, Bool.false_and, Bool.and_false, Bool.or_true, Bool.true_or, Bool.or_false, Bool.false_or, Bool.false_eq_true, Bool.true_eq_false, if_true, if_false, ↓reduceIte], by first | (rw [if_pos c_1]; rfl) | (rw [if_neg c_1])⟩) dX2_append_16

set_option maxHeartbeats 4000000 in
set_option maxRecDepth 100000 in
theorem kX2_removeFirst (l : Launch) (dC : Nat → ClassId) (dI : Nat → Nat → Nat) (ca : Nat → ClassId) (ad : Nat → Nat) (S : sSt) (pp : Nat) (kq : Nat) (hp6 : pp < 6) (hk8 : kq ≤ 7) (hq : S.1 34 pp = nI (kq + 1)) : ct_V l yX2_removeFirst (Cond.code yX2_removeFirst cX2_removeFirst 3 none :: wa_T) ({ frames := 0, cells := 0, slots := 0, locals := 0 } : Room) (dC, dI) vwCl (tyl ca) (wc ca ad) S [.ref (ad 4), .int (nI pp)] (fun S2 => S2 = qrem S pp kq) := by
  refine ct_ofV (by decide) (Nat.le_of_ble_eq_true rfl) ?_
  intro p e s m below meth c A ls hx hb hr hml hts hown hlocks hK hA hw hl
  have hl : lv_has ls 3 [(0, .ref (ad 4)), (1, .int (nI pp))] := hl
  refine lv_iconst (v := nI 1) hx hb dX2_removeFirst_0 (by decide) ?_
  refine lv_istore_n (lv' := [(2, .int (nI 1)), (0, .ref (ad 4)), (1, .int (nI pp))]) hx hb dX2_removeFirst_1 rfl hl (by decide) rfl (fun ls hl => ?_)
  have lp_2 : ∀ (n : Nat) (i : Nat), i ≤ kq → kq + 1 ≤ i + n → ∀ (H : Heap) (locs : List Loc) (ls : Array Slot), wo_w (dC, dI) vwCl A s.heap (wc ca ad (qsh S pp i)) H locs → lv_has ls 3 [(0, .ref (ad 4)), (1, .int (nI pp)), (2, .int (nI (i + 1)))] → W p l e ({ frames := 0, cells := 0, slots := 0, locals := 0 } : Room) s m ([.ref (ad 4), .int (nI pp)] : List Value).toArray below meth c H locs 0 0 (MQ below (va_Qv (fun S2 => S2 = qrem S pp kq) (ct_B (dC, dI) vwCl (tyl ca) (wc ca ad) A) A) ([.ref (ad 4), .int (nI pp)] : List Value).toArray s 0 0 A) (F0 m 2 ls []) := by
    intro n
    induction n with
    | zero =>
      intro i hi hn
      exfalso
      omega
    | succ n ih_2 =>
      intro i hi hn H locs ls hw hl
      refine lv_iload_n hx hb dX2_removeFirst_2 rfl (lv_at hl 2 rfl) ?_
      refine lv_aload_n hx hb dX2_removeFirst_3 rfl (lv_at hl 0 rfl) ?_
      refine wo_get hx hb hts inX2 hown hK hw 4 rfl rfl 0 (by decide) (hts _ wd_135) (fun _ h9 => h9) rfl dX2_removeFirst_4 ?_
      refine lv_iload_n hx hb dX2_removeFirst_7 rfl (lv_at hl 1 rfl) ?_
      refine wo_iald hx hb hK hw 34 0 rfl rfl pp rfl (by first | assumption | omega) (by decide) dX2_removeFirst_8 ?_
      refine tp_i (y := nI (kq + 1)) (by rw [qsh_34 S pp hp6 i]; exact hq) ?_
      refine lv_icmp_ge (tgt := 54) hx hb dX2_removeFirst_9 (by decide) (fun c_1 => ?_) (fun c_1 => ?_)
      · skip
        have c_1 : (kq + 1) ≤ (i + 1) := (nI_leI (a := kq + 1) (b := i + 1) (by omega) (by omega)).mp c_1
        obtain rfl : kq = i := by omega
        refine lv_aload_n hx hb dX2_removeFirst_54 rfl (lv_at hl 0 rfl) ?_
        refine wo_get hx hb hts inX2 hown hK hw 4 rfl rfl 0 (by decide) (hts _ wd_135) (fun _ h9 => h9) rfl dX2_removeFirst_55 ?_
        refine lv_iload_n hx hb dX2_removeFirst_58 rfl (lv_at hl 1 rfl) ?_
        refine lv_dup2_11 hx hb dX2_removeFirst_59 rfl rfl ?_
        refine wo_iald hx hb hK hw 34 0 rfl rfl pp rfl (by first | assumption | omega) (by decide) dX2_removeFirst_60 ?_
        refine tp_i (y := nI (kq + 1)) (by rw [qsh_34 S pp hp6 kq]; exact hq) ?_
        refine lv_iconst (v := nI 1) hx hb dX2_removeFirst_61 (by decide) ?_
        refine lv_isub hx hb dX2_removeFirst_62 ?_
        refine tp_i (pk_sub (a := kq + 1) (b := 1) (by omega)) ?_
        refine wo_iast hx hb hK hw 34 0 rfl rfl pp rfl (by first | assumption | omega) (by decide) (se_34 ca ad (qsh S pp kq) pp (nI ((kq + 1) - 1))) dX2_removeFirst_63 (fun H locs hw => ?_)
        exact ct_vret (S := sI (qsh S pp kq) 34 pp (nI ((kq + 1) - 1))) hx hb hr hlocks hK hw (rfl) dX2_removeFirst_64
      · skip
        have c_1 : ¬ ((kq + 1) ≤ (i + 1)) := fun h9 => c_1 ((nI_leI (a := kq + 1) (b := i + 1) (by omega) (by omega)).mpr h9)
        refine lv_aload_n hx hb dX2_removeFirst_12 rfl (lv_at hl 0 rfl) ?_
        refine wo_get hx hb hts inX2 hown hK hw 4 rfl rfl 1 (by decide) (hts _ wd_137) (fun _ h9 => h9) rfl dX2_removeFirst_13 ?_
        refine lv_iload_n hx hb dX2_removeFirst_16 rfl (lv_at hl 1 rfl) ?_
        refine wo_aald hx hb hK hw 35 4 rfl rfl pp rfl (by first | assumption | omega) (by decide) (if_pos (by first | assumption | omega)) dX2_removeFirst_17 ?_
        refine lv_iload_n hx hb dX2_removeFirst_18 rfl (lv_at hl 2 rfl) ?_
        refine lv_iconst (v := nI 1) hx hb dX2_removeFirst_19 (by decide) ?_
        refine lv_isub hx hb dX2_removeFirst_20 ?_
        refine tp_i (pk_sub (a := i + 1) (b := 1) (by omega)) ?_
        refine lv_aload_n hx hb dX2_removeFirst_21 rfl (lv_at hl 0 rfl) ?_
        refine wo_get hx hb hts inX2 hown hK hw 4 rfl rfl 1 (by decide) (hts _ wd_137) (fun _ h9 => h9) rfl dX2_removeFirst_22 ?_
        refine lv_iload_n hx hb dX2_removeFirst_25 rfl (lv_at hl 1 rfl) ?_
        refine wo_aald hx hb hK hw 35 4 rfl rfl pp rfl (by first | assumption | omega) (by decide) (if_pos (by first | assumption | omega)) dX2_removeFirst_26 ?_
        refine lv_iload_n hx hb dX2_removeFirst_27 rfl (lv_at hl 2 rfl) ?_
        refine wo_iald hx hb hK hw (36 + pp) 0 (rw_35 ca ad _ pp (by first | assumption | omega)) rfl (i + 1) rfl (by first | assumption | omega) (by decide) dX2_removeFirst_28 ?_
        refine wo_iast hx hb hK hw (36 + pp) 0 (rw_35 ca ad _ pp (by first | assumption | omega)) rfl ((i + 1) - 1) rfl (by first | assumption | omega) (by decide) (se_35 ca ad (qsh S pp i) pp (by first | assumption | omega) ((i + 1) - 1) ((qsh S pp i).1 (36 + pp) (i + 1))) dX2_removeFirst_29 (fun H locs hw => ?_)
        refine lv_aload_n hx hb dX2_removeFirst_30 rfl (lv_at hl 0 rfl) ?_
        refine wo_get hx hb hts inX2 hown hK hw 4 rfl rfl 2 (by decide) (hts _ wd_139) (fun _ h9 => h9) rfl dX2_removeFirst_31 ?_
        refine lv_iload_n hx hb dX2_removeFirst_34 rfl (lv_at hl 1 rfl) ?_
        refine wo_aald hx hb hK hw 42 3 rfl rfl pp rfl (by first | assumption | omega) (by decide) (if_pos (by first | assumption | omega)) dX2_removeFirst_35 ?_
        refine lv_iload_n hx hb dX2_removeFirst_36 rfl (lv_at hl 2 rfl) ?_
        refine lv_iconst (v := nI 1) hx hb dX2_removeFirst_37 (by decide) ?_
        refine lv_isub hx hb dX2_removeFirst_38 ?_
        refine tp_i (pk_sub (a := i + 1) (b := 1) (by omega)) ?_
        refine lv_aload_n hx hb dX2_removeFirst_39 rfl (lv_at hl 0 rfl) ?_
        refine wo_get hx hb hts inX2 hown hK hw 4 rfl rfl 2 (by decide) (hts _ wd_139) (fun _ h9 => h9) rfl dX2_removeFirst_40 ?_
        refine lv_iload_n hx hb dX2_removeFirst_43 rfl (lv_at hl 1 rfl) ?_
        refine wo_aald hx hb hK hw 42 3 rfl rfl pp rfl (by first | assumption | omega) (by decide) (if_pos (by first | assumption | omega)) dX2_removeFirst_44 ?_
        refine lv_iload_n hx hb dX2_removeFirst_45 rfl (lv_at hl 2 rfl) ?_
        refine wo_lald hx hb hK hw (43 + pp) 1 (rw_42 ca ad _ pp (by first | assumption | omega)) rfl (i + 1) rfl (by first | assumption | omega) (by decide) dX2_removeFirst_46 ?_
        refine wo_last hx hb hK hw (43 + pp) 1 (rw_42 ca ad _ pp (by first | assumption | omega)) rfl ((i + 1) - 1) rfl (by first | assumption | omega) (by decide) (se_42 ca ad (sI (qsh S pp i) (36 + pp) ((i + 1) - 1) ((qsh S pp i).1 (36 + pp) (i + 1))) pp (by first | assumption | omega) ((i + 1) - 1) ((sI (qsh S pp i) (36 + pp) ((i + 1) - 1) ((qsh S pp i).1 (36 + pp) (i + 1))).2 (43 + pp) (i + 1))) dX2_removeFirst_47 (fun H locs hw => ?_)
        refine lv_iinc (v := nI ((i + 1) + 1)) (lv' := [(2, .int (nI ((i + 1) + 1))), (0, .ref (ad 4)), (1, .int (nI pp))]) hx hb dX2_removeFirst_48 hl (k := 2) rfl (nI_inc _) (by decide) rfl (fun ls hl => ?_)
        refine lv_goto (tgt := 2) hx hb dX2_removeFirst_51 (by decide) ?_
        have e9 : sL (sI (qsh S pp i) (36 + pp) ((i + 1) - 1) ((qsh S pp i).1 (36 + pp) (i + 1))) (43 + pp) ((i + 1) - 1) ((sI (qsh S pp i) (36 + pp) ((i + 1) - 1) ((qsh S pp i).1 (36 + pp) (i + 1))).2 (43 + pp) (i + 1)) = qsh S pp (i + 1) := rfl
        rw [e9] at hw
        exact ih_2 (i + 1) (by omega) (by omega) _ _ _ hw (lv_sub hl [1, 2, 0] rfl)
  have e9 : nI 1 = nI (0 + 1) := rfl
  rw [e9] at hl
  have e9 : S = qsh S pp 0 := rfl
  rw [e9] at hw
  exact lp_2 (kq + 1) 0 (by omega) (by omega) _ _ _ hw (lv_sub hl [1, 2, 0] rfl)

set_option maxHeartbeats 4000000 in
set_option maxRecDepth 100000 in
theorem kX2_clear (l : Launch) (dC : Nat → ClassId) (dI : Nat → Nat → Nat) (ca : Nat → ClassId) (ad : Nat → Nat) (S : sSt) (pp : Nat) (hp6 : pp < 6) : ct_V l yX2_clear (Cond.code yX2_clear cX2_clear 2 none :: wa_T) ({ frames := 0, cells := 0, slots := 0, locals := 0 } : Room) (dC, dI) vwCl (tyl ca) (wc ca ad) S [.ref (ad 4), .int (nI pp)] (fun S2 => S2 = sI S 34 pp (nI 0)) := by
  refine ct_ofV (by decide) (Nat.le_of_ble_eq_true rfl) ?_
  intro p e s m below meth c A ls hx hb hr hml hts hown hlocks hK hA hw hl
  have hl : lv_has ls 2 [(0, .ref (ad 4)), (1, .int (nI pp))] := hl
  refine lv_aload_n hx hb dX2_clear_0 rfl (lv_at hl 0 rfl) ?_
  refine wo_get hx hb hts inX2 hown hK hw 4 rfl rfl 0 (by decide) (hts _ wd_135) (fun _ h9 => h9) rfl dX2_clear_1 ?_
  refine lv_iload_n hx hb dX2_clear_4 rfl (lv_at hl 1 rfl) ?_
  refine lv_iconst (v := nI 0) hx hb dX2_clear_5 (by decide) ?_
  refine wo_iast hx hb hK hw 34 0 rfl rfl pp rfl (by first | assumption | omega) (by decide) (se_34 ca ad S pp (nI 0)) dX2_clear_6 (fun H locs hw => ?_)
  exact ct_vret (S := sI S 34 pp (nI 0)) hx hb hr hlocks hK hw (rfl) dX2_clear_7
end
section
theorem dX3_has_0 : decode cX3_has 0 = .ok (.iload_n 1, 1) := by decide +kernel
theorem dX3_has_1 : decode cX3_has 1 = .ok (.iconst 1, 1) := by decide +kernel
theorem dX3_has_2 : decode cX3_has 2 = .ok (.if_icmp .lt 15, 3) := by decide +kernel
theorem dX3_has_5 : decode cX3_has 5 = .ok (.iload_n 1, 1) := by decide +kernel
theorem dX3_has_6 : decode cX3_has 6 = .ok (.aload_n 0, 1) := by decide +kernel
theorem dX3_has_7 : decode cX3_has 7 = .ok (.getfield 37, 3) := by decide +kernel
theorem dX3_has_10 : decode cX3_has 10 = .ok (.if_icmp .gt 7, 3) := by decide +kernel
theorem dX3_has_13 : decode cX3_has 13 = .ok (.iconst 1, 1) := by decide +kernel
theorem dX3_has_14 : decode cX3_has 14 = .ok (.goto 4, 3) := by decide +kernel
theorem dX3_has_17 : decode cX3_has 17 = .ok (.iconst 0, 1) := by decide +kernel
theorem dX3_has_18 : decode cX3_has 18 = .ok (.ireturn, 1) := by decide +kernel

theorem dX3_isOf_0 : decode cX3_isOf 0 = .ok (.aload_n 0, 1) := by decide +kernel
theorem dX3_isOf_1 : decode cX3_isOf 1 = .ok (.getfield 9, 3) := by decide +kernel
theorem dX3_isOf_4 : decode cX3_isOf 4 = .ok (.iload_n 1, 1) := by decide +kernel
theorem dX3_isOf_5 : decode cX3_isOf 5 = .ok (.iaload, 1) := by decide +kernel
theorem dX3_isOf_6 : decode cX3_isOf 6 = .ok (.iload_n 2, 1) := by decide +kernel
theorem dX3_isOf_7 : decode cX3_isOf 7 = .ok (.if_icmp .ne 17, 3) := by decide +kernel
theorem dX3_isOf_10 : decode cX3_isOf 10 = .ok (.aload_n 0, 1) := by decide +kernel
theorem dX3_isOf_11 : decode cX3_isOf 11 = .ok (.getfield 15, 3) := by decide +kernel
theorem dX3_isOf_14 : decode cX3_isOf 14 = .ok (.iload_n 1, 1) := by decide +kernel
theorem dX3_isOf_15 : decode cX3_isOf 15 = .ok (.iaload, 1) := by decide +kernel
theorem dX3_isOf_16 : decode cX3_isOf 16 = .ok (.iload_n 3, 1) := by decide +kernel
theorem dX3_isOf_17 : decode cX3_isOf 17 = .ok (.if_icmp .ne 7, 3) := by decide +kernel
theorem dX3_isOf_20 : decode cX3_isOf 20 = .ok (.iconst 1, 1) := by decide +kernel
theorem dX3_isOf_21 : decode cX3_isOf 21 = .ok (.goto 4, 3) := by decide +kernel
theorem dX3_isOf_24 : decode cX3_isOf 24 = .ok (.iconst 0, 1) := by decide +kernel
theorem dX3_isOf_25 : decode cX3_isOf 25 = .ok (.ireturn, 1) := by decide +kernel

theorem dX3_open_0 : decode cX3_open 0 = .ok (.aload_n 0, 1) := by decide +kernel
theorem dX3_open_1 : decode cX3_open 1 = .ok (.dup, 1) := by decide +kernel
theorem dX3_open_2 : decode cX3_open 2 = .ok (.getfield 37, 3) := by decide +kernel
theorem dX3_open_5 : decode cX3_open 5 = .ok (.iconst 1, 1) := by decide +kernel
theorem dX3_open_6 : decode cX3_open 6 = .ok (.iadd, 1) := by decide +kernel
theorem dX3_open_7 : decode cX3_open 7 = .ok (.putfield 37, 3) := by decide +kernel
theorem dX3_open_10 : decode cX3_open 10 = .ok (.aload_n 0, 1) := by decide +kernel
theorem dX3_open_11 : decode cX3_open 11 = .ok (.getfield 9, 3) := by decide +kernel
theorem dX3_open_14 : decode cX3_open 14 = .ok (.aload_n 0, 1) := by decide +kernel
theorem dX3_open_15 : decode cX3_open 15 = .ok (.getfield 37, 3) := by decide +kernel
theorem dX3_open_18 : decode cX3_open 18 = .ok (.iload_n 1, 1) := by decide +kernel
theorem dX3_open_19 : decode cX3_open 19 = .ok (.iastore, 1) := by decide +kernel
theorem dX3_open_20 : decode cX3_open 20 = .ok (.aload_n 0, 1) := by decide +kernel
theorem dX3_open_21 : decode cX3_open 21 = .ok (.getfield 15, 3) := by decide +kernel
theorem dX3_open_24 : decode cX3_open 24 = .ok (.aload_n 0, 1) := by decide +kernel
theorem dX3_open_25 : decode cX3_open 25 = .ok (.getfield 37, 3) := by decide +kernel
theorem dX3_open_28 : decode cX3_open 28 = .ok (.iload_n 2, 1) := by decide +kernel
theorem dX3_open_29 : decode cX3_open 29 = .ok (.iastore, 1) := by decide +kernel
theorem dX3_open_30 : decode cX3_open 30 = .ok (.aload_n 0, 1) := by decide +kernel
theorem dX3_open_31 : decode cX3_open 31 = .ok (.getfield 18, 3) := by decide +kernel
theorem dX3_open_34 : decode cX3_open 34 = .ok (.aload_n 0, 1) := by decide +kernel
theorem dX3_open_35 : decode cX3_open 35 = .ok (.getfield 37, 3) := by decide +kernel
theorem dX3_open_38 : decode cX3_open 38 = .ok (.iload_n 3, 1) := by decide +kernel
theorem dX3_open_39 : decode cX3_open 39 = .ok (.iastore, 1) := by decide +kernel
theorem dX3_open_40 : decode cX3_open 40 = .ok (.aload_n 0, 1) := by decide +kernel
theorem dX3_open_41 : decode cX3_open 41 = .ok (.getfield 21, 3) := by decide +kernel
theorem dX3_open_44 : decode cX3_open 44 = .ok (.aload_n 0, 1) := by decide +kernel
theorem dX3_open_45 : decode cX3_open 45 = .ok (.getfield 37, 3) := by decide +kernel
theorem dX3_open_48 : decode cX3_open 48 = .ok (.iload 4, 2) := by decide +kernel
theorem dX3_open_50 : decode cX3_open 50 = .ok (.iastore, 1) := by decide +kernel
theorem dX3_open_51 : decode cX3_open 51 = .ok (.aload_n 0, 1) := by decide +kernel
theorem dX3_open_52 : decode cX3_open 52 = .ok (.getfield 30, 3) := by decide +kernel
theorem dX3_open_55 : decode cX3_open 55 = .ok (.aload_n 0, 1) := by decide +kernel
theorem dX3_open_56 : decode cX3_open 56 = .ok (.getfield 37, 3) := by decide +kernel
theorem dX3_open_59 : decode cX3_open 59 = .ok (.lload 5, 2) := by decide +kernel
theorem dX3_open_61 : decode cX3_open 61 = .ok (.lastore, 1) := by decide +kernel
theorem dX3_open_62 : decode cX3_open 62 = .ok (.aload_n 0, 1) := by decide +kernel
theorem dX3_open_63 : decode cX3_open 63 = .ok (.getfield 34, 3) := by decide +kernel
theorem dX3_open_66 : decode cX3_open 66 = .ok (.aload_n 0, 1) := by decide +kernel
theorem dX3_open_67 : decode cX3_open 67 = .ok (.getfield 37, 3) := by decide +kernel
theorem dX3_open_70 : decode cX3_open 70 = .ok (.lload 5, 2) := by decide +kernel
theorem dX3_open_72 : decode cX3_open 72 = .ok (.lastore, 1) := by decide +kernel
theorem dX3_open_73 : decode cX3_open 73 = .ok (.aload_n 0, 1) := by decide +kernel
theorem dX3_open_74 : decode cX3_open 74 = .ok (.getfield 37, 3) := by decide +kernel
theorem dX3_open_77 : decode cX3_open 77 = .ok (.ireturn, 1) := by decide +kernel

theorem dX3_empty_0 : decode cX3_empty 0 = .ok (.aload_n 0, 1) := by decide +kernel
theorem dX3_empty_1 : decode cX3_empty 1 = .ok (.getfield 34, 3) := by decide +kernel
theorem dX3_empty_4 : decode cX3_empty 4 = .ok (.iload_n 1, 1) := by decide +kernel
theorem dX3_empty_5 : decode cX3_empty 5 = .ok (.laload, 1) := by decide +kernel
theorem dX3_empty_6 : decode cX3_empty 6 = .ok (.lstore_n 2, 1) := by decide +kernel
theorem dX3_empty_7 : decode cX3_empty 7 = .ok (.aload_n 0, 1) := by decide +kernel
theorem dX3_empty_8 : decode cX3_empty 8 = .ok (.getfield 34, 3) := by decide +kernel
theorem dX3_empty_11 : decode cX3_empty 11 = .ok (.iload_n 1, 1) := by decide +kernel
theorem dX3_empty_12 : decode cX3_empty 12 = .ok (.lconst 0, 1) := by decide +kernel
theorem dX3_empty_13 : decode cX3_empty 13 = .ok (.lastore, 1) := by decide +kernel
theorem dX3_empty_14 : decode cX3_empty 14 = .ok (.lload_n 2, 1) := by decide +kernel
theorem dX3_empty_15 : decode cX3_empty 15 = .ok (.lreturn, 1) := by decide +kernel

theorem dX3_callBack_0 : decode cX3_callBack 0 = .ok (.lconst 0, 1) := by decide +kernel
theorem dX3_callBack_1 : decode cX3_callBack 1 = .ok (.lstore 4, 2) := by decide +kernel
theorem dX3_callBack_3 : decode cX3_callBack 3 = .ok (.iconst 1, 1) := by decide +kernel
theorem dX3_callBack_4 : decode cX3_callBack 4 = .ok (.istore 6, 2) := by decide +kernel
theorem dX3_callBack_6 : decode cX3_callBack 6 = .ok (.iload 6, 2) := by decide +kernel
theorem dX3_callBack_8 : decode cX3_callBack 8 = .ok (.aload_n 0, 1) := by decide +kernel
theorem dX3_callBack_9 : decode cX3_callBack 9 = .ok (.getfield 37, 3) := by decide +kernel
theorem dX3_callBack_12 : decode cX3_callBack 12 = .ok (.if_icmp .gt 84, 3) := by decide +kernel
theorem dX3_callBack_15 : decode cX3_callBack 15 = .ok (.aload_n 0, 1) := by decide +kernel
theorem dX3_callBack_16 : decode cX3_callBack 16 = .ok (.getfield 18, 3) := by decide +kernel
theorem dX3_callBack_19 : decode cX3_callBack 19 = .ok (.iload 6, 2) := by decide +kernel
theorem dX3_callBack_21 : decode cX3_callBack 21 = .ok (.iaload, 1) := by decide +kernel
theorem dX3_callBack_22 : decode cX3_callBack 22 = .ok (.iload_n 3, 1) := by decide +kernel
theorem dX3_callBack_23 : decode cX3_callBack 23 = .ok (.if_icmp .eq 14, 3) := by decide +kernel
theorem dX3_callBack_26 : decode cX3_callBack 26 = .ok (.aload_n 0, 1) := by decide +kernel
theorem dX3_callBack_27 : decode cX3_callBack 27 = .ok (.getfield 21, 3) := by decide +kernel
theorem dX3_callBack_30 : decode cX3_callBack 30 = .ok (.iload 6, 2) := by decide +kernel
theorem dX3_callBack_32 : decode cX3_callBack 32 = .ok (.iaload, 1) := by decide +kernel
theorem dX3_callBack_33 : decode cX3_callBack 33 = .ok (.iload_n 3, 1) := by decide +kernel
theorem dX3_callBack_34 : decode cX3_callBack 34 = .ok (.if_icmp .ne 7, 3) := by decide +kernel
theorem dX3_callBack_37 : decode cX3_callBack 37 = .ok (.iconst 1, 1) := by decide +kernel
theorem dX3_callBack_38 : decode cX3_callBack 38 = .ok (.goto 4, 3) := by decide +kernel
theorem dX3_callBack_41 : decode cX3_callBack 41 = .ok (.iconst 0, 1) := by decide +kernel
theorem dX3_callBack_42 : decode cX3_callBack 42 = .ok (.istore 7, 2) := by decide +kernel
theorem dX3_callBack_44 : decode cX3_callBack 44 = .ok (.iload 7, 2) := by decide +kernel
theorem dX3_callBack_46 : decode cX3_callBack 46 = .ok (.ifCond .eq 44, 3) := by decide +kernel
theorem dX3_callBack_49 : decode cX3_callBack 49 = .ok (.aload_n 0, 1) := by decide +kernel
theorem dX3_callBack_50 : decode cX3_callBack 50 = .ok (.iload 6, 2) := by decide +kernel
theorem dX3_callBack_52 : decode cX3_callBack 52 = .ok (.iload_n 1, 1) := by decide +kernel
theorem dX3_callBack_53 : decode cX3_callBack 53 = .ok (.iload_n 2, 1) := by decide +kernel
theorem dX3_callBack_54 : decode cX3_callBack 54 = .ok (.invokevirtual 41, 3) := by decide +kernel
theorem dX3_callBack_57 : decode cX3_callBack 57 = .ok (.ifCond .eq 33, 3) := by decide +kernel
theorem dX3_callBack_60 : decode cX3_callBack 60 = .ok (.aload_n 0, 1) := by decide +kernel
theorem dX3_callBack_61 : decode cX3_callBack 61 = .ok (.getfield 24, 3) := by decide +kernel
theorem dX3_callBack_64 : decode cX3_callBack 64 = .ok (.iload 6, 2) := by decide +kernel
theorem dX3_callBack_66 : decode cX3_callBack 66 = .ok (.iaload, 1) := by decide +kernel
theorem dX3_callBack_67 : decode cX3_callBack 67 = .ok (.iconst 1, 1) := by decide +kernel
theorem dX3_callBack_68 : decode cX3_callBack 68 = .ok (.if_icmp .eq 22, 3) := by decide +kernel
theorem dX3_callBack_71 : decode cX3_callBack 71 = .ok (.aload_n 0, 1) := by decide +kernel
theorem dX3_callBack_72 : decode cX3_callBack 72 = .ok (.getfield 24, 3) := by decide +kernel
theorem dX3_callBack_75 : decode cX3_callBack 75 = .ok (.iload 6, 2) := by decide +kernel
theorem dX3_callBack_77 : decode cX3_callBack 77 = .ok (.iconst 2, 1) := by decide +kernel
theorem dX3_callBack_78 : decode cX3_callBack 78 = .ok (.iastore, 1) := by decide +kernel
theorem dX3_callBack_79 : decode cX3_callBack 79 = .ok (.lload 4, 2) := by decide +kernel
theorem dX3_callBack_81 : decode cX3_callBack 81 = .ok (.aload_n 0, 1) := by decide +kernel
theorem dX3_callBack_82 : decode cX3_callBack 82 = .ok (.iload 6, 2) := by decide +kernel
theorem dX3_callBack_84 : decode cX3_callBack 84 = .ok (.invokevirtual 45, 3) := by decide +kernel
theorem dX3_callBack_87 : decode cX3_callBack 87 = .ok (.ladd, 1) := by decide +kernel
theorem dX3_callBack_88 : decode cX3_callBack 88 = .ok (.lstore 4, 2) := by decide +kernel
theorem dX3_callBack_90 : decode cX3_callBack 90 = .ok (.iinc 6 1, 3) := by decide +kernel
theorem dX3_callBack_93 : decode cX3_callBack 93 = .ok (.goto (-87), 3) := by decide +kernel
theorem dX3_callBack_96 : decode cX3_callBack 96 = .ok (.lload 4, 2) := by decide +kernel
theorem dX3_callBack_98 : decode cX3_callBack 98 = .ok (.lreturn, 1) := by decide +kernel

set_option maxHeartbeats 4000000 in
set_option maxRecDepth 100000 in
theorem kX3_has (l : Launch) (dC : Nat → ClassId) (dI : Nat → Nat → Nat) (ca : Nat → ClassId) (ad : Nat → Nat) (S : sSt) (rr : Int32) : ct_I l yX3_has (Cond.code yX3_has cX3_has 2 (some .boolean) :: wa_T) ({ frames := 0, cells := 0, slots := 0, locals := 0 } : Room) (dC, dI) vwCl (tyl ca) (wc ca ad) S [.ref (ad 3), .int rr] (fun r S2 => r = bI (hrw S rr) ∧ S2 = S) := by
  refine ct_ofI (by decide) (Nat.le_of_ble_eq_true rfl) ?_
  intro p e s m below meth c A ls hx hb hr hml hts hown hlocks hK hA hw hl
  have hl : lv_has ls 2 [(0, .ref (ad 3)), (1, .int rr)] := hl
  refine lv_iload_n hx hb dX3_has_0 rfl (lv_at hl 1 rfl) ?_
  refine lv_iconst (v := nI 1) hx hb dX3_has_1 (by decide) ?_
  refine lv_icmp_lt (tgt := 17) hx hb dX3_has_2 (by decide) (fun c_1 => ?_) (fun c_1 => ?_)
  · skip
    refine lv_iconst (v := nI 0) hx hb dX3_has_17 (by decide) ?_
    exact ct_zret (S := S) (v := nI 0) hx hb hr hlocks hK (by first | decide | exact nb_z _) hw (⟨by simp only [bI, hrw, c_1, decide_true, decide_false, Bool.not_true, Bool.not_false, Bool.true_and, Bool.and_true, Bool.false_and, Bool.and_false, Bool.or_true, Bool.true_or, Bool.or_false, Bool.false_or, Bool.false_eq_true, Bool.true_eq_false, if_true, if_false, ↓reduceIte], rfl⟩) dX3_has_18
  · skip
    refine lv_iload_n hx hb dX3_has_5 rfl (lv_at hl 1 rfl) ?_
    refine lv_aload_n hx hb dX3_has_6 rfl (lv_at hl 0 rfl) ?_
    refine wo_get hx hb hts inX3 hown hK hw 3 rfl rfl 0 (by decide) (hts _ wd_89) (fun _ h9 => h9) rfl dX3_has_7 ?_
    refine lv_icmp_gt (tgt := 17) hx hb dX3_has_10 (by decide) (fun c_2 => ?_) (fun c_2 => ?_)
    · skip
      refine lv_iconst (v := nI 0) hx hb dX3_has_17 (by decide) ?_
      exact ct_zret (S := S) (v := nI 0) hx hb hr hlocks hK (by first | decide | exact nb_z _) hw (⟨by simp only [bI, hrw, c_1, c_2, decide_true, decide_false, Bool.not_true, Bool.not_false, Bool.true_and, Bool.and_true, Bool.false_and, Bool.and_false, Bool.or_true, Bool.true_or, Bool.or_false, Bool.false_or, Bool.false_eq_true, Bool.true_eq_false, if_true, if_false, ↓reduceIte], rfl⟩) dX3_has_18
    · skip
      refine lv_iconst (v := nI 1) hx hb dX3_has_13 (by decide) ?_
      refine lv_goto (tgt := 18) hx hb dX3_has_14 (by decide) ?_
      exact ct_zret (S := S) (v := nI 1) hx hb hr hlocks hK (by first | decide | exact nb_z _) hw (⟨by simp only [bI, hrw, c_1, c_2, decide_true, decide_false, Bool.not_true, Bool.not_false, Bool.true_and, Bool.and_true, Bool.false_and, Bool.and_false, Bool.or_true, Bool.true_or, Bool.or_false, Bool.false_or, Bool.false_eq_true, Bool.true_eq_false, if_true, if_false, ↓reduceIte], rfl⟩) dX3_has_18

set_option maxHeartbeats 4000000 in
set_option maxRecDepth 100000 in
theorem kX3_isOf (l : Launch) (dC : Nat → ClassId) (dI : Nat → Nat → Nat) (ca : Nat → ClassId) (ad : Nat → Nat) (S : sSt) (rr : Nat) (bb : Nat) (sd : Nat) (hr : rr < 201) : ct_I l yX3_isOf (Cond.code yX3_isOf cX3_isOf 4 (some .boolean) :: wa_T) ({ frames := 0, cells := 0, slots := 0, locals := 0 } : Room) (dC, dI) vwCl (tyl ca) (wc ca ad) S [.ref (ad 3), .int (nI rr), .int (nI bb), .int (nI sd)] (fun r S2 => r = bI (isOf S rr bb sd) ∧ S2 = S) := by
  refine ct_ofI (by decide) (Nat.le_of_ble_eq_true rfl) ?_
  intro p e s m below meth c A ls hx hb hr hml hts hown hlocks hK hA hw hl
  have hl : lv_has ls 4 [(0, .ref (ad 3)), (1, .int (nI rr)), (2, .int (nI bb)), (3, .int (nI sd))] := hl
  refine lv_aload_n hx hb dX3_isOf_0 rfl (lv_at hl 0 rfl) ?_
  refine wo_get hx hb hts inX3 hown hK hw 3 rfl rfl 1 (by decide) (hts _ wd_91) (fun _ h9 => h9) rfl dX3_isOf_1 ?_
  refine lv_iload_n hx hb dX3_isOf_4 rfl (lv_at hl 1 rfl) ?_
  refine wo_iald hx hb hK hw 26 0 rfl rfl rr rfl (by first | assumption | omega) (by decide) dX3_isOf_5 ?_
  refine lv_iload_n hx hb dX3_isOf_6 rfl (lv_at hl 2 rfl) ?_
  refine lv_icmp_ne (tgt := 24) hx hb dX3_isOf_7 (by decide) (fun c_1 => ?_) (fun c_1 => ?_)
  · skip
    refine lv_iconst (v := nI 0) hx hb dX3_isOf_24 (by decide) ?_
    exact ct_zret (S := S) (v := nI 0) hx hb hr hlocks hK (by first | decide | exact nb_z _) hw (⟨by simp only [bI, isOf, c_1, decide_true, decide_false, Bool.not_true, Bool.not_false, Bool.true_and, Bool.and_true, Bool.false_and, Bool.and_false, Bool.or_true, Bool.true_or, Bool.or_false, Bool.false_or, Bool.false_eq_true, Bool.true_eq_false, if_true, if_false, ↓reduceIte], rfl⟩) dX3_isOf_25
  · skip
    refine lv_aload_n hx hb dX3_isOf_10 rfl (lv_at hl 0 rfl) ?_
    refine wo_get hx hb hts inX3 hown hK hw 3 rfl rfl 2 (by decide) (hts _ wd_93) (fun _ h9 => h9) rfl dX3_isOf_11 ?_
    refine lv_iload_n hx hb dX3_isOf_14 rfl (lv_at hl 1 rfl) ?_
    refine wo_iald hx hb hK hw 27 0 rfl rfl rr rfl (by first | assumption | omega) (by decide) dX3_isOf_15 ?_
    refine lv_iload_n hx hb dX3_isOf_16 rfl (lv_at hl 3 rfl) ?_
    refine lv_icmp_ne (tgt := 24) hx hb dX3_isOf_17 (by decide) (fun c_2 => ?_) (fun c_2 => ?_)
    · skip
      refine lv_iconst (v := nI 0) hx hb dX3_isOf_24 (by decide) ?_
      exact ct_zret (S := S) (v := nI 0) hx hb hr hlocks hK (by first | decide | exact nb_z _) hw (⟨by simp only [bI, isOf, c_1, c_2, decide_true, decide_false, Bool.not_true, Bool.not_false, Bool.true_and, Bool.and_true, Bool.false_and, Bool.and_false, Bool.or_true, Bool.true_or, Bool.or_false, Bool.false_or, Bool.false_eq_true, Bool.true_eq_false, if_true, if_false, ↓reduceIte], rfl⟩) dX3_isOf_25
    · skip
      refine lv_iconst (v := nI 1) hx hb dX3_isOf_20 (by decide) ?_
      refine lv_goto (tgt := 25) hx hb dX3_isOf_21 (by decide) ?_
      exact ct_zret (S := S) (v := nI 1) hx hb hr hlocks hK (by first | decide | exact nb_z _) hw (⟨by simp only [bI, isOf, c_1, c_2, decide_true, decide_false, Bool.not_true, Bool.not_false, Bool.true_and, Bool.and_true, Bool.false_and, Bool.and_false, Bool.or_true, Bool.true_or, Bool.or_false, Bool.false_or, Bool.false_eq_true, Bool.true_eq_false, if_true, if_false, ↓reduceIte], rfl⟩) dX3_isOf_25

set_option maxHeartbeats 4000000 in
set_option maxRecDepth 100000 in
theorem kX3_open (l : Launch) (dC : Nat → ClassId) (dI : Nat → Nat → Nat) (ca : Nat → ClassId) (ad : Nat → Nat) (S : sSt) (bb : Nat) (sd : Nat) (fr : Nat) (to : Nat) (vv : Int64) (nr : Nat) (hr : nr < 200) (hcnt : S.1 3 0 = nI nr) : ct_I l yX3_open (Cond.code yX3_open cX3_open 7 (some .int) :: wa_T) ({ frames := 0, cells := 0, slots := 0, locals := 0 } : Room) (dC, dI) vwCl (tyl ca) (wc ca ad) S [.ref (ad 3), .int (nI bb), .int (nI sd), .int (nI fr), .int (nI to), .long vv] (fun r S2 => r = nI (nr + 1) ∧ S2 = ropen S nr bb sd fr to vv) := by
  refine ct_ofI (by decide) (Nat.le_of_ble_eq_true rfl) ?_
  intro p e s m below meth c A ls hx hb hr hml hts hown hlocks hK hA hw hl
  have hl : lv_has ls 7 [(0, .ref (ad 3)), (1, .int (nI bb)), (2, .int (nI sd)), (3, .int (nI fr)), (4, .int (nI to)), (5, .long vv)] := hl
  refine lv_aload_n hx hb dX3_open_0 rfl (lv_at hl 0 rfl) ?_
  refine lv_dup hx hb dX3_open_1 rfl ?_
  refine wo_get hx hb hts inX3 hown hK hw 3 rfl rfl 0 (by decide) (hts _ wd_89) (fun _ h9 => h9) rfl dX3_open_2 ?_
  refine tp_i (y := nI nr) (hcnt) ?_
  refine lv_iconst (v := nI 1) hx hb dX3_open_5 (by decide) ?_
  refine lv_iadd hx hb dX3_open_6 ?_
  refine tp_i (nI_add nr 1) ?_
  refine wo_put (ty := .int) (v := .int (nI (nr + 1))) hx hb hts inX3 tyX3 tyX3_ok nmX3 hown hK hw 3 rfl rfl 0 (by decide) (hts _ wd_89) (fun _ h9 => h9) rfl (by decide +kernel) rfl rfl (Nat.le_of_ble_eq_true rfl) (sf_3_0 ca ad S (nI (nr + 1))) dX3_open_7 (fun H locs hw => ?_)
  refine lv_aload_n hx hb dX3_open_10 rfl (lv_at hl 0 rfl) ?_
  refine wo_get hx hb hts inX3 hown hK hw 3 rfl rfl 1 (by decide) (hts _ wd_91) (fun _ h9 => h9) rfl dX3_open_11 ?_
  refine lv_aload_n hx hb dX3_open_14 rfl (lv_at hl 0 rfl) ?_
  refine wo_get hx hb hts inX3 hown hK hw 3 rfl rfl 0 (by decide) (hts _ wd_89) (fun _ h9 => h9) rfl dX3_open_15 ?_
  refine tp_i (y := nI (nr + 1)) (rfl) ?_
  refine lv_iload_n hx hb dX3_open_18 rfl (lv_at hl 1 rfl) ?_
  refine wo_iast hx hb hK hw 26 0 rfl rfl (nr + 1) rfl (by first | assumption | omega) (by decide) (se_26 ca ad (sI S 3 0 (nI (nr + 1))) (nr + 1) (nI bb)) dX3_open_19 (fun H locs hw => ?_)
  refine lv_aload_n hx hb dX3_open_20 rfl (lv_at hl 0 rfl) ?_
  refine wo_get hx hb hts inX3 hown hK hw 3 rfl rfl 2 (by decide) (hts _ wd_93) (fun _ h9 => h9) rfl dX3_open_21 ?_
  refine lv_aload_n hx hb dX3_open_24 rfl (lv_at hl 0 rfl) ?_
  refine wo_get hx hb hts inX3 hown hK hw 3 rfl rfl 0 (by decide) (hts _ wd_89) (fun _ h9 => h9) rfl dX3_open_25 ?_
  refine tp_i (y := nI (nr + 1)) (rfl) ?_
  refine lv_iload_n hx hb dX3_open_28 rfl (lv_at hl 2 rfl) ?_
  refine wo_iast hx hb hK hw 27 0 rfl rfl (nr + 1) rfl (by first | assumption | omega) (by decide) (se_27 ca ad (sI (sI S 3 0 (nI (nr + 1))) 26 (nr + 1) (nI bb)) (nr + 1) (nI sd)) dX3_open_29 (fun H locs hw => ?_)
  refine lv_aload_n hx hb dX3_open_30 rfl (lv_at hl 0 rfl) ?_
  refine wo_get hx hb hts inX3 hown hK hw 3 rfl rfl 3 (by decide) (hts _ wd_95) (fun _ h9 => h9) rfl dX3_open_31 ?_
  refine lv_aload_n hx hb dX3_open_34 rfl (lv_at hl 0 rfl) ?_
  refine wo_get hx hb hts inX3 hown hK hw 3 rfl rfl 0 (by decide) (hts _ wd_89) (fun _ h9 => h9) rfl dX3_open_35 ?_
  refine tp_i (y := nI (nr + 1)) (rfl) ?_
  refine lv_iload_n hx hb dX3_open_38 rfl (lv_at hl 3 rfl) ?_
  refine wo_iast hx hb hK hw 28 0 rfl rfl (nr + 1) rfl (by first | assumption | omega) (by decide) (se_28 ca ad (sI (sI (sI S 3 0 (nI (nr + 1))) 26 (nr + 1) (nI bb)) 27 (nr + 1) (nI sd)) (nr + 1) (nI fr)) dX3_open_39 (fun H locs hw => ?_)
  refine lv_aload_n hx hb dX3_open_40 rfl (lv_at hl 0 rfl) ?_
  refine wo_get hx hb hts inX3 hown hK hw 3 rfl rfl 4 (by decide) (hts _ wd_97) (fun _ h9 => h9) rfl dX3_open_41 ?_
  refine lv_aload_n hx hb dX3_open_44 rfl (lv_at hl 0 rfl) ?_
  refine wo_get hx hb hts inX3 hown hK hw 3 rfl rfl 0 (by decide) (hts _ wd_89) (fun _ h9 => h9) rfl dX3_open_45 ?_
  refine tp_i (y := nI (nr + 1)) (rfl) ?_
  refine lv_iload hx hb dX3_open_48 (lv_at hl 4 rfl) ?_
  refine wo_iast hx hb hK hw 29 0 rfl rfl (nr + 1) rfl (by first | assumption | omega) (by decide) (se_29 ca ad (sI (sI (sI (sI S 3 0 (nI (nr + 1))) 26 (nr + 1) (nI bb)) 27 (nr + 1) (nI sd)) 28 (nr + 1) (nI fr)) (nr + 1) (nI to)) dX3_open_50 (fun H locs hw => ?_)
  refine lv_aload_n hx hb dX3_open_51 rfl (lv_at hl 0 rfl) ?_
  refine wo_get hx hb hts inX3 hown hK hw 3 rfl rfl 7 (by decide) (hts _ wd_103) (fun _ h9 => h9) rfl dX3_open_52 ?_
  refine lv_aload_n hx hb dX3_open_55 rfl (lv_at hl 0 rfl) ?_
  refine wo_get hx hb hts inX3 hown hK hw 3 rfl rfl 0 (by decide) (hts _ wd_89) (fun _ h9 => h9) rfl dX3_open_56 ?_
  refine tp_i (y := nI (nr + 1)) (rfl) ?_
  refine lv_lload hx hb dX3_open_59 (lv_at hl 5 rfl) ?_
  refine wo_last hx hb hK hw 32 1 rfl rfl (nr + 1) rfl (by first | assumption | omega) (by decide) (se_32 ca ad (sI (sI (sI (sI (sI S 3 0 (nI (nr + 1))) 26 (nr + 1) (nI bb)) 27 (nr + 1) (nI sd)) 28 (nr + 1) (nI fr)) 29 (nr + 1) (nI to)) (nr + 1) vv) dX3_open_61 (fun H locs hw => ?_)
  refine lv_aload_n hx hb dX3_open_62 rfl (lv_at hl 0 rfl) ?_
  refine wo_get hx hb hts inX3 hown hK hw 3 rfl rfl 8 (by decide) (hts _ wd_105) (fun _ h9 => h9) rfl dX3_open_63 ?_
  refine lv_aload_n hx hb dX3_open_66 rfl (lv_at hl 0 rfl) ?_
  refine wo_get hx hb hts inX3 hown hK hw 3 rfl rfl 0 (by decide) (hts _ wd_89) (fun _ h9 => h9) rfl dX3_open_67 ?_
  refine tp_i (y := nI (nr + 1)) (rfl) ?_
  refine lv_lload hx hb dX3_open_70 (lv_at hl 5 rfl) ?_
  refine wo_last hx hb hK hw 33 1 rfl rfl (nr + 1) rfl (by first | assumption | omega) (by decide) (se_33 ca ad (sL (sI (sI (sI (sI (sI S 3 0 (nI (nr + 1))) 26 (nr + 1) (nI bb)) 27 (nr + 1) (nI sd)) 28 (nr + 1) (nI fr)) 29 (nr + 1) (nI to)) 32 (nr + 1) vv) (nr + 1) vv) dX3_open_72 (fun H locs hw => ?_)
  refine lv_aload_n hx hb dX3_open_73 rfl (lv_at hl 0 rfl) ?_
  refine wo_get hx hb hts inX3 hown hK hw 3 rfl rfl 0 (by decide) (hts _ wd_89) (fun _ h9 => h9) rfl dX3_open_74 ?_
  refine tp_i (y := nI (nr + 1)) (rfl) ?_
  exact ct_iret (S := sL (sL (sI (sI (sI (sI (sI S 3 0 (nI (nr + 1))) 26 (nr + 1) (nI bb)) 27 (nr + 1) (nI sd)) 28 (nr + 1) (nI fr)) 29 (nr + 1) (nI to)) 32 (nr + 1) vv) 33 (nr + 1) vv) (v := nI (nr + 1)) hx hb hr hlocks hK hw (⟨rfl, rfl⟩) dX3_open_77

set_option maxHeartbeats 4000000 in
set_option maxRecDepth 100000 in
theorem kX3_empty (l : Launch) (dC : Nat → ClassId) (dI : Nat → Nat → Nat) (ca : Nat → ClassId) (ad : Nat → Nat) (S : sSt) (rr : Nat) (hr : rr < 201) : ct_L l yX3_empty (Cond.code yX3_empty cX3_empty 4 (some .long) :: wa_T) ({ frames := 0, cells := 0, slots := 0, locals := 0 } : Room) (dC, dI) vwCl (tyl ca) (wc ca ad) S [.ref (ad 3), .int (nI rr)] (fun r S2 => r = S.2 33 rr ∧ S2 = sL S 33 rr 0) := by
  refine ct_ofL (by decide) (Nat.le_of_ble_eq_true rfl) ?_
  intro p e s m below meth c A ls hx hb hr hml hts hown hlocks hK hA hw hl
  have hl : lv_has ls 4 [(0, .ref (ad 3)), (1, .int (nI rr))] := hl
  refine lv_aload_n hx hb dX3_empty_0 rfl (lv_at hl 0 rfl) ?_
  refine wo_get hx hb hts inX3 hown hK hw 3 rfl rfl 8 (by decide) (hts _ wd_105) (fun _ h9 => h9) rfl dX3_empty_1 ?_
  refine lv_iload_n hx hb dX3_empty_4 rfl (lv_at hl 1 rfl) ?_
  refine wo_lald hx hb hK hw 33 1 rfl rfl rr rfl (by first | assumption | omega) (by decide) dX3_empty_5 ?_
  refine lv_lstore_n (lv' := [(2, .long (S.2 33 rr)), (0, .ref (ad 3)), (1, .int (nI rr))]) hx hb dX3_empty_6 rfl hl (by decide) rfl (fun ls hl => ?_)
  refine lv_aload_n hx hb dX3_empty_7 rfl (lv_at hl 1 rfl) ?_
  refine wo_get hx hb hts inX3 hown hK hw 3 rfl rfl 8 (by decide) (hts _ wd_105) (fun _ h9 => h9) rfl dX3_empty_8 ?_
  refine lv_iload_n hx hb dX3_empty_11 rfl (lv_at hl 2 rfl) ?_
  refine lv_lconst (v := 0) hx hb dX3_empty_12 (by decide) ?_
  refine wo_last hx hb hK hw 33 1 rfl rfl rr rfl (by first | assumption | omega) (by decide) (se_33 ca ad S rr 0) dX3_empty_13 (fun H locs hw => ?_)
  refine lv_lload_n hx hb dX3_empty_14 rfl (lv_at hl 0 rfl) ?_
  exact ct_lret (S := sL S 33 rr 0) (v := S.2 33 rr) hx hb hr hlocks hK hw (⟨rfl, rfl⟩) dX3_empty_15

set_option maxHeartbeats 4000000 in
set_option maxRecDepth 100000 in
theorem kX3_callBack (l : Launch) (dC : Nat → ClassId) (dI : Nat → Nat → Nat) (ca : Nat → ClassId) (ad : Nat → Nat) (S : sSt) (bb : Nat) (sd : Nat) (pp : Nat) (nr : Nat) (hr : nr ≤ 200) (hcnt : S.1 3 0 = nI nr) : ct_L l yX3_callBack (Cond.code yX3_callBack cX3_callBack 8 (some .long) :: wa_T) ({ frames := 1, cells := 0, slots := 0, locals := 23 } : Room) (dC, dI) vwCl (tyl ca) (wc ca ad) S [.ref (ad 3), .int (nI bb), .int (nI sd), .int (nI pp)] (fun r S2 => r = (cbk S bb sd pp nr).2 ∧ S2 = (cbk S bb sd pp nr).1) := by
  refine ct_ofL (by decide) (Nat.le_of_ble_eq_true rfl) ?_
  intro p e s m below meth c A ls hx hb hr hml hts hown hlocks hK hA hw hl
  have hl : lv_has ls 8 [(0, .ref (ad 3)), (1, .int (nI bb)), (2, .int (nI sd)), (3, .int (nI pp))] := hl
  refine lv_lconst (v := 0) hx hb dX3_callBack_0 (by decide) ?_
  refine lv_lstore (lv' := [(4, .long 0), (0, .ref (ad 3)), (1, .int (nI bb)), (2, .int (nI sd)), (3, .int (nI pp))]) hx hb dX3_callBack_1 hl (by decide) rfl (fun ls hl => ?_)
  refine lv_iconst (v := nI 1) hx hb dX3_callBack_3 (by decide) ?_
  refine lv_istore (lv' := [(6, .int (nI 1)), (4, .long 0), (0, .ref (ad 3)), (1, .int (nI bb)), (2, .int (nI sd)), (3, .int (nI pp))]) hx hb dX3_callBack_4 hl (by decide) rfl (fun ls hl => ?_)
  have lp_6 : ∀ (n : Nat) (i : Nat), i ≤ nr → nr + 1 ≤ i + n → ∀ (H : Heap) (locs : List Loc) (ls : Array Slot), wo_w (dC, dI) vwCl A s.heap (wc ca ad ((cbk S bb sd pp i).1)) H locs → lv_has ls 8 [(0, .ref (ad 3)), (1, .int (nI bb)), (2, .int (nI sd)), (3, .int (nI pp)), (4, .long ((cbk S bb sd pp i).2)), (6, .int (nI (i + 1)))] → W p l e ({ frames := 1, cells := 0, slots := 0, locals := 23 } : Room) s m ([.ref (ad 3), .int (nI bb), .int (nI sd), .int (nI pp)] : List Value).toArray below meth c H locs 0 0 (MQ below (va_Ql (fun r S2 => r = (cbk S bb sd pp nr).2 ∧ S2 = (cbk S bb sd pp nr).1) (ct_B (dC, dI) vwCl (tyl ca) (wc ca ad) A) A) ([.ref (ad 3), .int (nI bb), .int (nI sd), .int (nI pp)] : List Value).toArray s 0 0 A) (F0 m 6 ls []) := by
    intro n
    induction n with
    | zero =>
      intro i hi hn
      exfalso
      omega
    | succ n ih_6 =>
      intro i hi hn H locs ls hw hl
      refine lv_iload hx hb dX3_callBack_6 (lv_at hl 5 rfl) ?_
      refine lv_aload_n hx hb dX3_callBack_8 rfl (lv_at hl 0 rfl) ?_
      refine wo_get hx hb hts inX3 hown hK hw 3 rfl rfl 0 (by decide) (hts _ wd_89) (fun _ h9 => h9) rfl dX3_callBack_9 ?_
      refine tp_i (y := nI nr) (by rw [cbk_cnt]; exact hcnt) ?_
      refine lv_icmp_gt (tgt := 96) hx hb dX3_callBack_12 (by decide) (fun c_1 => ?_) (fun c_1 => ?_)
      · skip
        have c_1 : nr < (i + 1) := (nI_ltI (a := nr) (b := i + 1) (by omega) (by omega)).mp c_1
        obtain rfl : nr = i := by omega
        refine lv_lload hx hb dX3_callBack_96 (lv_at hl 4 rfl) ?_
        exact ct_lret (S := (cbk S bb sd pp nr).1) (v := (cbk S bb sd pp nr).2) hx hb hr hlocks hK hw (⟨rfl, rfl⟩) dX3_callBack_98
      · skip
        have c_1 : ¬ (nr < (i + 1)) := fun h9 => c_1 ((nI_ltI (a := nr) (b := i + 1) (by omega) (by omega)).mpr h9)
        refine lv_aload_n hx hb dX3_callBack_15 rfl (lv_at hl 0 rfl) ?_
        refine wo_get hx hb hts inX3 hown hK hw 3 rfl rfl 3 (by decide) (hts _ wd_95) (fun _ h9 => h9) rfl dX3_callBack_16 ?_
        refine lv_iload hx hb dX3_callBack_19 (lv_at hl 5 rfl) ?_
        refine wo_iald hx hb hK hw 28 0 rfl rfl (i + 1) rfl (by first | assumption | omega) (by decide) dX3_callBack_21 ?_
        refine lv_iload_n hx hb dX3_callBack_22 rfl (lv_at hl 3 rfl) ?_
        refine lv_icmp_eq (tgt := 37) hx hb dX3_callBack_23 (by decide) (fun c_2 => ?_) (fun c_2 => ?_)
        · skip
          refine lv_iconst (v := nI 1) hx hb dX3_callBack_37 (by decide) ?_
          refine lv_goto (tgt := 42) hx hb dX3_callBack_38 (by decide) ?_
          refine lv_istore (lv' := [(7, .int (nI 1)), (0, .ref (ad 3)), (1, .int (nI bb)), (2, .int (nI sd)), (3, .int (nI pp)), (4, .long ((cbk S bb sd pp i).2)), (6, .int (nI (i + 1)))]) hx hb dX3_callBack_42 hl (by decide) rfl (fun ls hl => ?_)
          refine lv_iload hx hb dX3_callBack_44 (lv_at hl 0 rfl) ?_
          refine lv_if_eq (tgt := 90) hx hb dX3_callBack_46 (by decide) (fun c9 => absurd c9 (by decide)) (fun _ => ?_)
          refine lv_aload_n hx hb dX3_callBack_49 rfl (lv_at hl 1 rfl) ?_
          refine lv_iload hx hb dX3_callBack_50 (lv_at hl 6 rfl) ?_
          refine lv_iload_n hx hb dX3_callBack_52 rfl (lv_at hl 2 rfl) ?_
          refine lv_iload_n hx hb dX3_callBack_53 rfl (lv_at hl 3 rfl) ?_
          refine wo_vI (As := [.int (nI (i + 1)), .int (nI bb), .int (nI sd)]) (rest := []) (kX3_isOf l dC dI ca ad ((cbk S bb sd pp i).1) (i + 1) bb sd (by first | assumption | omega)) ⟨hx, hb, hml, hown, hts⟩ (cwV 3 hts (wa_gV wd_321 wd_322 wd_323 wd_5 wd_324) rfl rfl rfl (by decide +kernel) ⟨Nat.le_of_ble_eq_true rfl, Nat.le_of_ble_eq_true rfl⟩) hK hw hA 3 rfl rfl rfl rfl hl.1 rfl (Nat.le_of_ble_eq_true rfl) dX3_callBack_54 ⟨Nat.zero_le _, Nat.zero_le _⟩ (fun r_3 S_3 H locs hp_3 hw => ?_)
          have e9 := hp_3.1.symm
          subst e9
          have e9 := hp_3.2.symm
          subst e9
          refine lv_if_eq (tgt := 90) hx hb dX3_callBack_57 (by decide) (fun c_4 => ?_) (fun c_4 => ?_)
          · skip
            have c_4 : isOf ((cbk S bb sd pp i).1) (i + 1) bb sd = false := nb_0 c_4
            refine lv_iinc (v := nI ((i + 1) + 1)) (lv' := [(6, .int (nI ((i + 1) + 1))), (7, .int (nI 1)), (0, .ref (ad 3)), (1, .int (nI bb)), (2, .int (nI sd)), (3, .int (nI pp)), (4, .long ((cbk S bb sd pp i).2))]) hx hb dX3_callBack_90 hl (k := 6) rfl (nI_inc _) (by decide) rfl (fun ls hl => ?_)
            refine lv_goto (tgt := 6) hx hb dX3_callBack_93 (by decide) ?_
            have e9 : (cbk S bb sd pp i).2 = (cbk S bb sd pp (i + 1)).2 := by first | rfl | (simp only [cbk, c_1, c_2, c_4, decide_true, decide_false, Bool.not_true, Bool.not_false, Bool.true_and, Bool.and_true, Bool.false_and, Bool.and_false, Bool.or_true, Bool.true_or, Bool.or_false, Bool.false_or, Bool.false_eq_true, Bool.true_eq_false, if_true, if_false, ↓reduceIte]; done) | (simp only [cbk, c_1, c_2, c_4, decide_true, decide_false, Bool.not_true, Bool.not_false, Bool.true_and, Bool.and_true, Bool.false_and, Bool.and_false, Bool.or_true, Bool.true_or, Bool.or_false, Bool.false_or, Bool.false_eq_true, Bool.true_eq_false, if_true, if_false, ↓reduceIte]; rfl)
            rw [e9] at hl
            have e9 : (cbk S bb sd pp i).1 = (cbk S bb sd pp (i + 1)).1 := by first | rfl | (simp only [cbk, c_1, c_2, c_4, decide_true, decide_false, Bool.not_true, Bool.not_false, Bool.true_and, Bool.and_true, Bool.false_and, Bool.and_false, Bool.or_true, Bool.true_or, Bool.or_false, Bool.false_or, Bool.false_eq_true, Bool.true_eq_false, if_true, if_false, ↓reduceIte]; done) | (simp only [cbk, c_1, c_2, c_4, decide_true, decide_false, Bool.not_true, Bool.not_false, Bool.true_and, Bool.and_true, Bool.false_and, Bool.and_false, Bool.or_true, Bool.true_or, Bool.or_false, Bool.false_or, Bool.false_eq_true, Bool.true_eq_false, if_true, if_false, ↓reduceIte]; rfl)
            rw [e9] at hw
            exact ih_6 (i + 1) (by omega) (by omega) _ _ _ hw (lv_sub hl [2, 3, 4, 5, 6, 0] rfl)
          · skip
            have c_4 : isOf ((cbk S bb sd pp i).1) (i + 1) bb sd = true := nb_1 c_4
            refine lv_aload_n hx hb dX3_callBack_60 rfl (lv_at hl 1 rfl) ?_
            refine wo_get hx hb hts inX3 hown hK hw 3 rfl rfl 5 (by decide) (hts _ wd_99) (fun _ h9 => h9) rfl dX3_callBack_61 ?_
            refine lv_iload hx hb dX3_callBack_64 (lv_at hl 6 rfl) ?_
            refine wo_iald hx hb hK hw 30 0 rfl rfl (i + 1) rfl (by first | assumption | omega) (by decide) dX3_callBack_66 ?_
            refine lv_iconst (v := nI 1) hx hb dX3_callBack_67 (by decide) ?_
            refine lv_icmp_eq (tgt := 90) hx hb dX3_callBack_68 (by decide) (fun c_5 => ?_) (fun c_5 => ?_)
            · skip
              refine lv_iinc (v := nI ((i + 1) + 1)) (lv' := [(6, .int (nI ((i + 1) + 1))), (7, .int (nI 1)), (0, .ref (ad 3)), (1, .int (nI bb)), (2, .int (nI sd)), (3, .int (nI pp)), (4, .long ((cbk S bb sd pp i).2))]) hx hb dX3_callBack_90 hl (k := 6) rfl (nI_inc _) (by decide) rfl (fun ls hl => ?_)
              refine lv_goto (tgt := 6) hx hb dX3_callBack_93 (by decide) ?_
              have e9 : (cbk S bb sd pp i).2 = (cbk S bb sd pp (i + 1)).2 := by first | rfl | (simp only [cbk, c_1, c_2, c_4, c_5, decide_true, decide_false, Bool.not_true, Bool.not_false, Bool.true_and, Bool.and_true, Bool.false_and, Bool.and_false, Bool.or_true, Bool.true_or, Bool.or_false, Bool.false_or, Bool.false_eq_true, Bool.true_eq_false, if_true, if_false, ↓reduceIte]; done) | (simp only [cbk, c_1, c_2, c_4, c_5, decide_true, decide_false, Bool.not_true, Bool.not_false, Bool.true_and, Bool.and_true, Bool.false_and, Bool.and_false, Bool.or_true, Bool.true_or, Bool.or_false, Bool.false_or, Bool.false_eq_true, Bool.true_eq_false, if_true, if_false, ↓reduceIte]; rfl)
              rw [e9] at hl
              have e9 : (cbk S bb sd pp i).1 = (cbk S bb sd pp (i + 1)).1 := by first | rfl | (simp only [cbk, c_1, c_2, c_4, c_5, decide_true, decide_false, Bool.not_true, Bool.not_false, Bool.true_and, Bool.and_true, Bool.false_and, Bool.and_false, Bool.or_true, Bool.true_or, Bool.or_false, Bool.false_or, Bool.false_eq_true, Bool.true_eq_false, if_true, if_false, ↓reduceIte]; done) | (simp only [cbk, c_1, c_2, c_4, c_5, decide_true, decide_false, Bool.not_true, Bool.not_false, Bool.true_and, Bool.and_true, Bool.false_and, Bool.and_false, Bool.or_true, Bool.true_or, Bool.or_false, Bool.false_or, Bool.false_eq_true, Bool.true_eq_false, if_true, if_false, ↓reduceIte]; rfl)
              rw [e9] at hw
              exact ih_6 (i + 1) (by omega) (by omega) _ _ _ hw (lv_sub hl [2, 3, 4, 5, 6, 0] rfl)
            · skip
              refine lv_aload_n hx hb dX3_callBack_71 rfl (lv_at hl 1 rfl) ?_
              refine wo_get hx hb hts inX3 hown hK hw 3 rfl rfl 5 (by decide) (hts _ wd_99) (fun _ h9 => h9) rfl dX3_callBack_72 ?_
              refine lv_iload hx hb dX3_callBack_75 (lv_at hl 6 rfl) ?_
              refine lv_iconst (v := nI 2) hx hb dX3_callBack_77 (by decide) ?_
              refine wo_iast hx hb hK hw 30 0 rfl rfl (i + 1) rfl (by first | assumption | omega) (by decide) (se_30 ca ad ((cbk S bb sd pp i).1) (i + 1) (nI 2)) dX3_callBack_78 (fun H locs hw => ?_)
              refine lv_lload hx hb dX3_callBack_79 (lv_at hl 5 rfl) ?_
              refine lv_aload_n hx hb dX3_callBack_81 rfl (lv_at hl 1 rfl) ?_
              refine lv_iload hx hb dX3_callBack_82 (lv_at hl 6 rfl) ?_
              refine wo_vL (As := [.int (nI (i + 1))]) (rest := [.long ((cbk S bb sd pp i).2)]) (kX3_empty l dC dI ca ad (sI ((cbk S bb sd pp i).1) 30 (i + 1) (nI 2)) (i + 1) (by first | assumption | omega)) ⟨hx, hb, hml, hown, hts⟩ (cwV 1 hts (wa_gV wd_325 wd_274 wd_275 wd_5 wd_276) rfl rfl rfl (by decide +kernel) ⟨Nat.le_of_ble_eq_true rfl, Nat.le_of_ble_eq_true rfl⟩) hK hw hA 3 rfl rfl rfl rfl hl.1 rfl (Nat.le_of_ble_eq_true rfl) dX3_callBack_84 ⟨Nat.zero_le _, Nat.zero_le _⟩ (fun r_6 S_6 H locs hp_6 hw => ?_)
              have e9 := hp_6.1.symm
              subst e9
              have e9 := hp_6.2.symm
              subst e9
              refine lv_ladd hx hb dX3_callBack_87 ?_
              refine lv_lstore (lv' := [(4, .long (((cbk S bb sd pp i).2) + ((sI ((cbk S bb sd pp i).1) 30 (i + 1) (nI 2)).2 33 (i + 1)))), (7, .int (nI 1)), (0, .ref (ad 3)), (1, .int (nI bb)), (2, .int (nI sd)), (3, .int (nI pp)), (6, .int (nI (i + 1)))]) hx hb dX3_callBack_88 hl (by decide) rfl (fun ls hl => ?_)
              refine lv_iinc (v := nI ((i + 1) + 1)) (lv' := [(6, .int (nI ((i + 1) + 1))), (4, .long (((cbk S bb sd pp i).2) + ((sI ((cbk S bb sd pp i).1) 30 (i + 1) (nI 2)).2 33 (i + 1)))), (7, .int (nI 1)), (0, .ref (ad 3)), (1, .int (nI bb)), (2, .int (nI sd)), (3, .int (nI pp))]) hx hb dX3_callBack_90 hl (k := 6) rfl (nI_inc _) (by decide) rfl (fun ls hl => ?_)
              refine lv_goto (tgt := 6) hx hb dX3_callBack_93 (by decide) ?_
              have e9 : ((cbk S bb sd pp i).2) + ((sI ((cbk S bb sd pp i).1) 30 (i + 1) (nI 2)).2 33 (i + 1)) = (cbk S bb sd pp (i + 1)).2 := by first | rfl | (simp only [cbk, c_1, c_2, c_4, c_5, decide_true, decide_false, Bool.not_true, Bool.not_false, Bool.true_and, Bool.and_true, Bool.false_and, Bool.and_false, Bool.or_true, Bool.true_or, Bool.or_false, Bool.false_or, Bool.false_eq_true, Bool.true_eq_false, if_true, if_false, ↓reduceIte]; done) | (simp only [cbk, c_1, c_2, c_4, c_5, decide_true, decide_false, Bool.not_true, Bool.not_false, Bool.true_and, Bool.and_true, Bool.false_and, Bool.and_false, Bool.or_true, Bool.true_or, Bool.or_false, Bool.false_or, Bool.false_eq_true, Bool.true_eq_false, if_true, if_false, ↓reduceIte]; rfl)
              rw [e9] at hl
              have e9 : sL (sI ((cbk S bb sd pp i).1) 30 (i + 1) (nI 2)) 33 (i + 1) 0 = (cbk S bb sd pp (i + 1)).1 := by first | rfl | (simp only [cbk, c_1, c_2, c_4, c_5, decide_true, decide_false, Bool.not_true, Bool.not_false, Bool.true_and, Bool.and_true, Bool.false_and, Bool.and_false, Bool.or_true, Bool.true_or, Bool.or_false, Bool.false_or, Bool.false_eq_true, Bool.true_eq_false, if_true, if_false, ↓reduceIte]; done) | (simp only [cbk, c_1, c_2, c_4, c_5, decide_true, decide_false, Bool.not_true, Bool.not_false, Bool.true_and, Bool.and_true, Bool.false_and, Bool.and_false, Bool.or_true, Bool.true_or, Bool.or_false, Bool.false_or, Bool.false_eq_true, Bool.true_eq_false, if_true, if_false, ↓reduceIte]; rfl)
              rw [e9] at hw
              exact ih_6 (i + 1) (by omega) (by omega) _ _ _ hw (lv_sub hl [3, 4, 5, 6, 1, 0] rfl)
        · skip
          refine lv_aload_n hx hb dX3_callBack_26 rfl (lv_at hl 0 rfl) ?_
          refine wo_get hx hb hts inX3 hown hK hw 3 rfl rfl 4 (by decide) (hts _ wd_97) (fun _ h9 => h9) rfl dX3_callBack_27 ?_
          refine lv_iload hx hb dX3_callBack_30 (lv_at hl 5 rfl) ?_
          refine wo_iald hx hb hK hw 29 0 rfl rfl (i + 1) rfl (by first | assumption | omega) (by decide) dX3_callBack_32 ?_
          refine lv_iload_n hx hb dX3_callBack_33 rfl (lv_at hl 3 rfl) ?_
          refine lv_icmp_ne (tgt := 41) hx hb dX3_callBack_34 (by decide) (fun c_7 => ?_) (fun c_7 => ?_)
          · skip
            refine lv_iconst (v := nI 0) hx hb dX3_callBack_41 (by decide) ?_
            refine lv_istore (lv' := [(7, .int (nI 0)), (0, .ref (ad 3)), (1, .int (nI bb)), (2, .int (nI sd)), (3, .int (nI pp)), (4, .long ((cbk S bb sd pp i).2)), (6, .int (nI (i + 1)))]) hx hb dX3_callBack_42 hl (by decide) rfl (fun ls hl => ?_)
            refine lv_iload hx hb dX3_callBack_44 (lv_at hl 0 rfl) ?_
            refine lv_if_eq (tgt := 90) hx hb dX3_callBack_46 (by decide) (fun _ => ?_) (fun c9 => absurd c9 (by decide))
            refine lv_iinc (v := nI ((i + 1) + 1)) (lv' := [(6, .int (nI ((i + 1) + 1))), (7, .int (nI 0)), (0, .ref (ad 3)), (1, .int (nI bb)), (2, .int (nI sd)), (3, .int (nI pp)), (4, .long ((cbk S bb sd pp i).2))]) hx hb dX3_callBack_90 hl (k := 6) rfl (nI_inc _) (by decide) rfl (fun ls hl => ?_)
            refine lv_goto (tgt := 6) hx hb dX3_callBack_93 (by decide) ?_
            have e9 : (cbk S bb sd pp i).2 = (cbk S bb sd pp (i + 1)).2 := by first | rfl | (simp only [cbk, c_1, c_2, c_7, decide_true, decide_false, Bool.not_true, Bool.not_false, Bool.true_and, Bool.and_true, Bool.false_and, Bool.and_false, Bool.or_true, Bool.true_or, Bool.or_false, Bool.false_or, Bool.false_eq_true, Bool.true_eq_false, if_true, if_false, ↓reduceIte]; done) | (simp only [cbk, c_1, c_2, c_7, decide_true, decide_false, Bool.not_true, Bool.not_false, Bool.true_and, Bool.and_true, Bool.false_and, Bool.and_false, Bool.or_true, Bool.true_or, Bool.or_false, Bool.false_or, Bool.false_eq_true, Bool.true_eq_false, if_true, if_false, ↓reduceIte]; rfl)
            rw [e9] at hl
            have e9 : (cbk S bb sd pp i).1 = (cbk S bb sd pp (i + 1)).1 := by first | rfl | (simp only [cbk, c_1, c_2, c_7, decide_true, decide_false, Bool.not_true, Bool.not_false, Bool.true_and, Bool.and_true, Bool.false_and, Bool.and_false, Bool.or_true, Bool.true_or, Bool.or_false, Bool.false_or, Bool.false_eq_true, Bool.true_eq_false, if_true, if_false, ↓reduceIte]; done) | (simp only [cbk, c_1, c_2, c_7, decide_true, decide_false, Bool.not_true, Bool.not_false, Bool.true_and, Bool.and_true, Bool.false_and, Bool.and_false, Bool.or_true, Bool.true_or, Bool.or_false, Bool.false_or, Bool.false_eq_true, Bool.true_eq_false, if_true, if_false, ↓reduceIte]; rfl)
            rw [e9] at hw
            exact ih_6 (i + 1) (by omega) (by omega) _ _ _ hw (lv_sub hl [2, 3, 4, 5, 6, 0] rfl)
          · skip
            refine lv_iconst (v := nI 1) hx hb dX3_callBack_37 (by decide) ?_
            refine lv_goto (tgt := 42) hx hb dX3_callBack_38 (by decide) ?_
            refine lv_istore (lv' := [(7, .int (nI 1)), (0, .ref (ad 3)), (1, .int (nI bb)), (2, .int (nI sd)), (3, .int (nI pp)), (4, .long ((cbk S bb sd pp i).2)), (6, .int (nI (i + 1)))]) hx hb dX3_callBack_42 hl (by decide) rfl (fun ls hl => ?_)
            refine lv_iload hx hb dX3_callBack_44 (lv_at hl 0 rfl) ?_
            refine lv_if_eq (tgt := 90) hx hb dX3_callBack_46 (by decide) (fun c9 => absurd c9 (by decide)) (fun _ => ?_)
            refine lv_aload_n hx hb dX3_callBack_49 rfl (lv_at hl 1 rfl) ?_
            refine lv_iload hx hb dX3_callBack_50 (lv_at hl 6 rfl) ?_
            refine lv_iload_n hx hb dX3_callBack_52 rfl (lv_at hl 2 rfl) ?_
            refine lv_iload_n hx hb dX3_callBack_53 rfl (lv_at hl 3 rfl) ?_
            refine wo_vI (As := [.int (nI (i + 1)), .int (nI bb), .int (nI sd)]) (rest := []) (kX3_isOf l dC dI ca ad ((cbk S bb sd pp i).1) (i + 1) bb sd (by first | assumption | omega)) ⟨hx, hb, hml, hown, hts⟩ (cwV 3 hts (wa_gV wd_321 wd_322 wd_323 wd_5 wd_324) rfl rfl rfl (by decide +kernel) ⟨Nat.le_of_ble_eq_true rfl, Nat.le_of_ble_eq_true rfl⟩) hK hw hA 3 rfl rfl rfl rfl hl.1 rfl (Nat.le_of_ble_eq_true rfl) dX3_callBack_54 ⟨Nat.zero_le _, Nat.zero_le _⟩ (fun r_8 S_8 H locs hp_8 hw => ?_)
            have e9 := hp_8.1.symm
            subst e9
            have e9 := hp_8.2.symm
            subst e9
            refine lv_if_eq (tgt := 90) hx hb dX3_callBack_57 (by decide) (fun c_9 => ?_) (fun c_9 => ?_)
            · skip
              have c_9 : isOf ((cbk S bb sd pp i).1) (i + 1) bb sd = false := nb_0 c_9
              refine lv_iinc (v := nI ((i + 1) + 1)) (lv' := [(6, .int (nI ((i + 1) + 1))), (7, .int (nI 1)), (0, .ref (ad 3)), (1, .int (nI bb)), (2, .int (nI sd)), (3, .int (nI pp)), (4, .long ((cbk S bb sd pp i).2))]) hx hb dX3_callBack_90 hl (k := 6) rfl (nI_inc _) (by decide) rfl (fun ls hl => ?_)
              refine lv_goto (tgt := 6) hx hb dX3_callBack_93 (by decide) ?_
              have e9 : (cbk S bb sd pp i).2 = (cbk S bb sd pp (i + 1)).2 := by first | rfl | (simp only [cbk, c_1, c_2, c_7, c_9, decide_true, decide_false, Bool.not_true, Bool.not_false, Bool.true_and, Bool.and_true, Bool.false_and, Bool.and_false, Bool.or_true, Bool.true_or, Bool.or_false, Bool.false_or, Bool.false_eq_true, Bool.true_eq_false, if_true, if_false, ↓reduceIte]; done) | (simp only [cbk, c_1, c_2, c_7, c_9, decide_true, decide_false, Bool.not_true, Bool.not_false, Bool.true_and, Bool.and_true, Bool.false_and, Bool.and_false, Bool.or_true, Bool.true_or, Bool.or_false, Bool.false_or, Bool.false_eq_true, Bool.true_eq_false, if_true, if_false, ↓reduceIte]; rfl)
              rw [e9] at hl
              have e9 : (cbk S bb sd pp i).1 = (cbk S bb sd pp (i + 1)).1 := by first | rfl | (simp only [cbk, c_1, c_2, c_7, c_9, decide_true, decide_false, Bool.not_true, Bool.not_false, Bool.true_and, Bool.and_true, Bool.false_and, Bool.and_false, Bool.or_true, Bool.true_or, Bool.or_false, Bool.false_or, Bool.false_eq_true, Bool.true_eq_false, if_true, if_false, ↓reduceIte]; done) | (simp only [cbk, c_1, c_2, c_7, c_9, decide_true, decide_false, Bool.not_true, Bool.not_false, Bool.true_and, Bool.and_true, Bool.false_and, Bool.and_false, Bool.or_true, Bool.true_or, Bool.or_false, Bool.false_or, Bool.false_eq_true, Bool.true_eq_false, if_true, if_false, ↓reduceIte]; rfl)
              rw [e9] at hw
              exact ih_6 (i + 1) (by omega) (by omega) _ _ _ hw (lv_sub hl [2, 3, 4, 5, 6, 0] rfl)
            · skip
              have c_9 : isOf ((cbk S bb sd pp i).1) (i + 1) bb sd = true := nb_1 c_9
              refine lv_aload_n hx hb dX3_callBack_60 rfl (lv_at hl 1 rfl) ?_
              refine wo_get hx hb hts inX3 hown hK hw 3 rfl rfl 5 (by decide) (hts _ wd_99) (fun _ h9 => h9) rfl dX3_callBack_61 ?_
              refine lv_iload hx hb dX3_callBack_64 (lv_at hl 6 rfl) ?_
              refine wo_iald hx hb hK hw 30 0 rfl rfl (i + 1) rfl (by first | assumption | omega) (by decide) dX3_callBack_66 ?_
              refine lv_iconst (v := nI 1) hx hb dX3_callBack_67 (by decide) ?_
              refine lv_icmp_eq (tgt := 90) hx hb dX3_callBack_68 (by decide) (fun c_10 => ?_) (fun c_10 => ?_)
              · skip
                refine lv_iinc (v := nI ((i + 1) + 1)) (lv' := [(6, .int (nI ((i + 1) + 1))), (7, .int (nI 1)), (0, .ref (ad 3)), (1, .int (nI bb)), (2, .int (nI sd)), (3, .int (nI pp)), (4, .long ((cbk S bb sd pp i).2))]) hx hb dX3_callBack_90 hl (k := 6) rfl (nI_inc _) (by decide) rfl (fun ls hl => ?_)
                refine lv_goto (tgt := 6) hx hb dX3_callBack_93 (by decide) ?_
                have e9 : (cbk S bb sd pp i).2 = (cbk S bb sd pp (i + 1)).2 := by first | rfl | (simp only [cbk, c_1, c_2, c_7, c_9, c_10, decide_true, decide_false, Bool.not_true, Bool.not_false, Bool.true_and, Bool.and_true, Bool.false_and, Bool.and_false, Bool.or_true, Bool.true_or, Bool.or_false, Bool.false_or, Bool.false_eq_true, Bool.true_eq_false, if_true, if_false, ↓reduceIte]; done) | (simp only [cbk, c_1, c_2, c_7, c_9, c_10, decide_true, decide_false, Bool.not_true, Bool.not_false, Bool.true_and, Bool.and_true, Bool.false_and, Bool.and_false, Bool.or_true, Bool.true_or, Bool.or_false, Bool.false_or, Bool.false_eq_true, Bool.true_eq_false, if_true, if_false, ↓reduceIte]; rfl)
                rw [e9] at hl
                have e9 : (cbk S bb sd pp i).1 = (cbk S bb sd pp (i + 1)).1 := by first | rfl | (simp only [cbk, c_1, c_2, c_7, c_9, c_10, decide_true, decide_false, Bool.not_true, Bool.not_false, Bool.true_and, Bool.and_true, Bool.false_and, Bool.and_false, Bool.or_true, Bool.true_or, Bool.or_false, Bool.false_or, Bool.false_eq_true, Bool.true_eq_false, if_true, if_false, ↓reduceIte]; done) | (simp only [cbk, c_1, c_2, c_7, c_9, c_10, decide_true, decide_false, Bool.not_true, Bool.not_false, Bool.true_and, Bool.and_true, Bool.false_and, Bool.and_false, Bool.or_true, Bool.true_or, Bool.or_false, Bool.false_or, Bool.false_eq_true, Bool.true_eq_false, if_true, if_false, ↓reduceIte]; rfl)
                rw [e9] at hw
                exact ih_6 (i + 1) (by omega) (by omega) _ _ _ hw (lv_sub hl [2, 3, 4, 5, 6, 0] rfl)
              · skip
                refine lv_aload_n hx hb dX3_callBack_71 rfl (lv_at hl 1 rfl) ?_
                refine wo_get hx hb hts inX3 hown hK hw 3 rfl rfl 5 (by decide) (hts _ wd_99) (fun _ h9 => h9) rfl dX3_callBack_72 ?_
                refine lv_iload hx hb dX3_callBack_75 (lv_at hl 6 rfl) ?_
                refine lv_iconst (v := nI 2) hx hb dX3_callBack_77 (by decide) ?_
                refine wo_iast hx hb hK hw 30 0 rfl rfl (i + 1) rfl (by first | assumption | omega) (by decide) (se_30 ca ad ((cbk S bb sd pp i).1) (i + 1) (nI 2)) dX3_callBack_78 (fun H locs hw => ?_)
                refine lv_lload hx hb dX3_callBack_79 (lv_at hl 5 rfl) ?_
                refine lv_aload_n hx hb dX3_callBack_81 rfl (lv_at hl 1 rfl) ?_
                refine lv_iload hx hb dX3_callBack_82 (lv_at hl 6 rfl) ?_
                refine wo_vL (As := [.int (nI (i + 1))]) (rest := [.long ((cbk S bb sd pp i).2)]) (kX3_empty l dC dI ca ad (sI ((cbk S bb sd pp i).1) 30 (i + 1) (nI 2)) (i + 1) (by first | assumption | omega)) ⟨hx, hb, hml, hown, hts⟩ (cwV 1 hts (wa_gV wd_325 wd_274 wd_275 wd_5 wd_276) rfl rfl rfl (by decide +kernel) ⟨Nat.le_of_ble_eq_true rfl, Nat.le_of_ble_eq_true rfl⟩) hK hw hA 3 rfl rfl rfl rfl hl.1 rfl (Nat.le_of_ble_eq_true rfl) dX3_callBack_84 ⟨Nat.zero_le _, Nat.zero_le _⟩ (fun r_11 S_11 H locs hp_11 hw => ?_)
                have e9 := hp_11.1.symm
                subst e9
                have e9 := hp_11.2.symm
                subst e9
                refine lv_ladd hx hb dX3_callBack_87 ?_
                refine lv_lstore (lv' := [(4, .long (((cbk S bb sd pp i).2) + ((sI ((cbk S bb sd pp i).1) 30 (i + 1) (nI 2)).2 33 (i + 1)))), (7, .int (nI 1)), (0, .ref (ad 3)), (1, .int (nI bb)), (2, .int (nI sd)), (3, .int (nI pp)), (6, .int (nI (i + 1)))]) hx hb dX3_callBack_88 hl (by decide) rfl (fun ls hl => ?_)
                refine lv_iinc (v := nI ((i + 1) + 1)) (lv' := [(6, .int (nI ((i + 1) + 1))), (4, .long (((cbk S bb sd pp i).2) + ((sI ((cbk S bb sd pp i).1) 30 (i + 1) (nI 2)).2 33 (i + 1)))), (7, .int (nI 1)), (0, .ref (ad 3)), (1, .int (nI bb)), (2, .int (nI sd)), (3, .int (nI pp))]) hx hb dX3_callBack_90 hl (k := 6) rfl (nI_inc _) (by decide) rfl (fun ls hl => ?_)
                refine lv_goto (tgt := 6) hx hb dX3_callBack_93 (by decide) ?_
                have e9 : ((cbk S bb sd pp i).2) + ((sI ((cbk S bb sd pp i).1) 30 (i + 1) (nI 2)).2 33 (i + 1)) = (cbk S bb sd pp (i + 1)).2 := by first | rfl | (simp only [cbk, c_1, c_2, c_7, c_9, c_10, decide_true, decide_false, Bool.not_true, Bool.not_false, Bool.true_and, Bool.and_true, Bool.false_and, Bool.and_false, Bool.or_true, Bool.true_or, Bool.or_false, Bool.false_or, Bool.false_eq_true, Bool.true_eq_false, if_true, if_false, ↓reduceIte]; done) | (simp only [cbk, c_1, c_2, c_7, c_9, c_10, decide_true, decide_false, Bool.not_true, Bool.not_false, Bool.true_and, Bool.and_true, Bool.false_and, Bool.and_false, Bool.or_true, Bool.true_or, Bool.or_false, Bool.false_or, Bool.false_eq_true, Bool.true_eq_false, if_true, if_false, ↓reduceIte]; rfl)
                rw [e9] at hl
                have e9 : sL (sI ((cbk S bb sd pp i).1) 30 (i + 1) (nI 2)) 33 (i + 1) 0 = (cbk S bb sd pp (i + 1)).1 := by first | rfl | (simp only [cbk, c_1, c_2, c_7, c_9, c_10, decide_true, decide_false, Bool.not_true, Bool.not_false, Bool.true_and, Bool.and_true, Bool.false_and, Bool.and_false, Bool.or_true, Bool.true_or, Bool.or_false, Bool.false_or, Bool.false_eq_true, Bool.true_eq_false, if_true, if_false, ↓reduceIte]; done) | (simp only [cbk, c_1, c_2, c_7, c_9, c_10, decide_true, decide_false, Bool.not_true, Bool.not_false, Bool.true_and, Bool.and_true, Bool.false_and, Bool.and_false, Bool.or_true, Bool.true_or, Bool.or_false, Bool.false_or, Bool.false_eq_true, Bool.true_eq_false, if_true, if_false, ↓reduceIte]; rfl)
                rw [e9] at hw
                exact ih_6 (i + 1) (by omega) (by omega) _ _ _ hw (lv_sub hl [3, 4, 5, 6, 1, 0] rfl)
  have e9 : 0 = (cbk S bb sd pp 0).2 := by first | rfl | (simp only [cbk, decide_true, decide_false, Bool.not_true, Bool.not_false, Bool.true_and, Bool.and_true, Bool.false_and, Bool.and_false, Bool.or_true, Bool.true_or, Bool.or_false, Bool.false_or, Bool.false_eq_true, Bool.true_eq_false, if_true, if_false, ↓reduceIte]; done) | (simp only [cbk, decide_true, decide_false, Bool.not_true, Bool.not_false, Bool.true_and, Bool.and_true, Bool.false_and, Bool.and_false, Bool.or_true, Bool.true_or, Bool.or_false, Bool.false_or, Bool.false_eq_true, Bool.true_eq_false, if_true, if_false, ↓reduceIte]; rfl)
  rw [e9] at hl
  have e9 : nI 1 = nI (0 + 1) := by first | rfl | (simp only [cbk, decide_true, decide_false, Bool.not_true, Bool.not_false, Bool.true_and, Bool.and_true, Bool.false_and, Bool.and_false, Bool.or_true, Bool.true_or, Bool.or_false, Bool.false_or, Bool.false_eq_true, Bool.true_eq_false, if_true, if_false, ↓reduceIte]; done) | (simp only [cbk, decide_true, decide_false, Bool.not_true, Bool.not_false, Bool.true_and, Bool.and_true, Bool.false_and, Bool.and_false, Bool.or_true, Bool.true_or, Bool.or_false, Bool.false_or, Bool.false_eq_true, Bool.true_eq_false, if_true, if_false, ↓reduceIte]; rfl)
  rw [e9] at hl
  have e9 : S = (cbk S bb sd pp 0).1 := by first | rfl | (simp only [cbk, decide_true, decide_false, Bool.not_true, Bool.not_false, Bool.true_and, Bool.and_true, Bool.false_and, Bool.and_false, Bool.or_true, Bool.true_or, Bool.or_false, Bool.false_or, Bool.false_eq_true, Bool.true_eq_false, if_true, if_false, ↓reduceIte]; done) | (simp only [cbk, decide_true, decide_false, Bool.not_true, Bool.not_false, Bool.true_and, Bool.and_true, Bool.false_and, Bool.and_false, Bool.or_true, Bool.true_or, Bool.or_false, Bool.false_or, Bool.false_eq_true, Bool.true_eq_false, if_true, if_false, ↓reduceIte]; rfl)
  rw [e9] at hw
  exact lp_6 (nr + 1) 0 (by omega) (by omega) _ _ _ hw (lv_sub hl [2, 3, 4, 5, 1, 0] rfl)
end
section
theorem dX4_allWeights_0 : decode cX4_allWeights 0 = .ok (.lconst 0, 1) := by decide +kernel
theorem dX4_allWeights_1 : decode cX4_allWeights 1 = .ok (.lstore_n 1, 1) := by decide +kernel
theorem dX4_allWeights_2 : decode cX4_allWeights 2 = .ok (.iconst 0, 1) := by decide +kernel
theorem dX4_allWeights_3 : decode cX4_allWeights 3 = .ok (.istore_n 3, 1) := by decide +kernel
theorem dX4_allWeights_4 : decode cX4_allWeights 4 = .ok (.iload_n 3, 1) := by decide +kernel
theorem dX4_allWeights_5 : decode cX4_allWeights 5 = .ok (.bipush 6, 2) := by decide +kernel
theorem dX4_allWeights_7 : decode cX4_allWeights 7 = .ok (.if_icmp .ge 18, 3) := by decide +kernel
theorem dX4_allWeights_10 : decode cX4_allWeights 10 = .ok (.lload_n 1, 1) := by decide +kernel
theorem dX4_allWeights_11 : decode cX4_allWeights 11 = .ok (.aload_n 0, 1) := by decide +kernel
theorem dX4_allWeights_12 : decode cX4_allWeights 12 = .ok (.getfield 9, 3) := by decide +kernel
theorem dX4_allWeights_15 : decode cX4_allWeights 15 = .ok (.iload_n 3, 1) := by decide +kernel
theorem dX4_allWeights_16 : decode cX4_allWeights 16 = .ok (.laload, 1) := by decide +kernel
theorem dX4_allWeights_17 : decode cX4_allWeights 17 = .ok (.ladd, 1) := by decide +kernel
theorem dX4_allWeights_18 : decode cX4_allWeights 18 = .ok (.lstore_n 1, 1) := by decide +kernel
theorem dX4_allWeights_19 : decode cX4_allWeights 19 = .ok (.iinc 3 1, 3) := by decide +kernel
theorem dX4_allWeights_22 : decode cX4_allWeights 22 = .ok (.goto (-18), 3) := by decide +kernel
theorem dX4_allWeights_25 : decode cX4_allWeights 25 = .ok (.lload_n 1, 1) := by decide +kernel
theorem dX4_allWeights_26 : decode cX4_allWeights 26 = .ok (.lreturn, 1) := by decide +kernel

theorem dX4_greatestRest_0 : decode cX4_greatestRest 0 = .ok (.iconst 0, 1) := by decide +kernel
theorem dX4_greatestRest_1 : decode cX4_greatestRest 1 = .ok (.istore_n 1, 1) := by decide +kernel
theorem dX4_greatestRest_2 : decode cX4_greatestRest 2 = .ok (.iconst 1, 1) := by decide +kernel
theorem dX4_greatestRest_3 : decode cX4_greatestRest 3 = .ok (.istore_n 2, 1) := by decide +kernel
theorem dX4_greatestRest_4 : decode cX4_greatestRest 4 = .ok (.iload_n 2, 1) := by decide +kernel
theorem dX4_greatestRest_5 : decode cX4_greatestRest 5 = .ok (.bipush 6, 2) := by decide +kernel
theorem dX4_greatestRest_7 : decode cX4_greatestRest 7 = .ok (.if_icmp .ge 27, 3) := by decide +kernel
theorem dX4_greatestRest_10 : decode cX4_greatestRest 10 = .ok (.aload_n 0, 1) := by decide +kernel
theorem dX4_greatestRest_11 : decode cX4_greatestRest 11 = .ok (.getfield 18, 3) := by decide +kernel
theorem dX4_greatestRest_14 : decode cX4_greatestRest 14 = .ok (.iload_n 2, 1) := by decide +kernel
theorem dX4_greatestRest_15 : decode cX4_greatestRest 15 = .ok (.laload, 1) := by decide +kernel
theorem dX4_greatestRest_16 : decode cX4_greatestRest 16 = .ok (.aload_n 0, 1) := by decide +kernel
theorem dX4_greatestRest_17 : decode cX4_greatestRest 17 = .ok (.getfield 18, 3) := by decide +kernel
theorem dX4_greatestRest_20 : decode cX4_greatestRest 20 = .ok (.iload_n 1, 1) := by decide +kernel
theorem dX4_greatestRest_21 : decode cX4_greatestRest 21 = .ok (.laload, 1) := by decide +kernel
theorem dX4_greatestRest_22 : decode cX4_greatestRest 22 = .ok (.lcmp, 1) := by decide +kernel
theorem dX4_greatestRest_23 : decode cX4_greatestRest 23 = .ok (.ifCond .le 5, 3) := by decide +kernel
theorem dX4_greatestRest_26 : decode cX4_greatestRest 26 = .ok (.iload_n 2, 1) := by decide +kernel
theorem dX4_greatestRest_27 : decode cX4_greatestRest 27 = .ok (.istore_n 1, 1) := by decide +kernel
theorem dX4_greatestRest_28 : decode cX4_greatestRest 28 = .ok (.iinc 2 1, 3) := by decide +kernel
theorem dX4_greatestRest_31 : decode cX4_greatestRest 31 = .ok (.goto (-27), 3) := by decide +kernel
theorem dX4_greatestRest_34 : decode cX4_greatestRest 34 = .ok (.iload_n 1, 1) := by decide +kernel
theorem dX4_greatestRest_35 : decode cX4_greatestRest 35 = .ok (.ireturn, 1) := by decide +kernel

set_option maxHeartbeats 4000000 in
set_option maxRecDepth 100000 in
theorem kX4_allWeights (l : Launch) (dC : Nat → ClassId) (dI : Nat → Nat → Nat) (ca : Nat → ClassId) (ad : Nat → Nat) (S : sSt)  : ct_L l yX4_allWeights (Cond.code yX4_allWeights cX4_allWeights 4 (some .long) :: wa_T) ({ frames := 0, cells := 0, slots := 0, locals := 0 } : Room) (dC, dI) vwCl (tyl ca) (wc ca ad) S [.ref (ad 5)] (fun r S2 => r = sumW S 6 ∧ S2 = S) := by
  refine ct_ofL (by decide) (Nat.le_of_ble_eq_true rfl) ?_
  intro p e s m below meth c A ls hx hb hr hml hts hown hlocks hK hA hw hl
  have hl : lv_has ls 4 [(0, .ref (ad 5))] := hl
  refine lv_lconst (v := 0) hx hb dX4_allWeights_0 (by decide) ?_
  refine lv_lstore_n (lv' := [(1, .long 0), (0, .ref (ad 5))]) hx hb dX4_allWeights_1 rfl hl (by decide) rfl (fun ls hl => ?_)
  refine lv_iconst (v := nI 0) hx hb dX4_allWeights_2 (by decide) ?_
  refine lv_istore_n (lv' := [(3, .int (nI 0)), (1, .long 0), (0, .ref (ad 5))]) hx hb dX4_allWeights_3 rfl hl (by decide) rfl (fun ls hl => ?_)
  have lp_4 : ∀ (n : Nat) (i : Nat), i ≤ 6 → 7 ≤ i + n → ∀ (H : Heap) (locs : List Loc) (ls : Array Slot), wo_w (dC, dI) vwCl A s.heap (wc ca ad S) H locs → lv_has ls 4 [(0, .ref (ad 5)), (1, .long (sumW S i)), (3, .int (nI i))] → W p l e ({ frames := 0, cells := 0, slots := 0, locals := 0 } : Room) s m ([.ref (ad 5)] : List Value).toArray below meth c H locs 0 0 (MQ below (va_Ql (fun r S2 => r = sumW S 6 ∧ S2 = S) (ct_B (dC, dI) vwCl (tyl ca) (wc ca ad) A) A) ([.ref (ad 5)] : List Value).toArray s 0 0 A) (F0 m 4 ls []) := by
    intro n
    induction n with
    | zero =>
      intro i hi hn
      exfalso
      omega
    | succ n ih_4 =>
      intro i hi hn H locs ls hw hl
      refine lv_iload_n hx hb dX4_allWeights_4 rfl (lv_at hl 2 rfl) ?_
      refine lv_bipush (v := nI 6) hx hb dX4_allWeights_5 (by decide) ?_
      refine lv_icmp_ge (tgt := 25) hx hb dX4_allWeights_7 (by decide) (fun c_1 => ?_) (fun c_1 => ?_)
      · skip
        have c_1 : 6 ≤ i := (nI_leI (a := 6) (b := i) (by omega) (by omega)).mp c_1
        obtain rfl : 6 = i := by omega
        refine lv_lload_n hx hb dX4_allWeights_25 rfl (lv_at hl 1 rfl) ?_
        exact ct_lret (S := S) (v := sumW S 6) hx hb hr hlocks hK hw (⟨rfl, rfl⟩) dX4_allWeights_26
      · skip
        have c_1 : ¬ (6 ≤ i) := fun h9 => c_1 ((nI_leI (a := 6) (b := i) (by omega) (by omega)).mpr h9)
        refine lv_lload_n hx hb dX4_allWeights_10 rfl (lv_at hl 1 rfl) ?_
        refine lv_aload_n hx hb dX4_allWeights_11 rfl (lv_at hl 0 rfl) ?_
        refine wo_get hx hb hts inX4 hown hK hw 5 rfl rfl 0 (by decide) (hts _ wd_154) (fun _ h9 => h9) rfl dX4_allWeights_12 ?_
        refine lv_iload_n hx hb dX4_allWeights_15 rfl (lv_at hl 2 rfl) ?_
        refine wo_lald hx hb hK hw 49 1 rfl rfl i rfl (by first | assumption | omega) (by decide) dX4_allWeights_16 ?_
        refine lv_ladd hx hb dX4_allWeights_17 ?_
        refine lv_lstore_n (lv' := [(1, .long ((sumW S i) + (S.2 49 i))), (0, .ref (ad 5)), (3, .int (nI i))]) hx hb dX4_allWeights_18 rfl hl (by decide) rfl (fun ls hl => ?_)
        refine lv_iinc (v := nI (i + 1)) (lv' := [(3, .int (nI (i + 1))), (1, .long ((sumW S i) + (S.2 49 i))), (0, .ref (ad 5))]) hx hb dX4_allWeights_19 hl (k := 2) rfl (nI_inc _) (by decide) rfl (fun ls hl => ?_)
        refine lv_goto (tgt := 4) hx hb dX4_allWeights_22 (by decide) ?_
        have e9 : (sumW S i) + (S.2 49 i) = sumW S (i + 1) := rfl
        rw [e9] at hl
        exact ih_4 (i + 1) (by omega) (by omega) _ _ _ hw (lv_sub hl [2, 1, 0] rfl)
  have e9 : 0 = sumW S 0 := rfl
  rw [e9] at hl
  exact lp_4 7 0 (by omega) (by omega) _ _ _ hw (lv_sub hl [2, 1, 0] rfl)

set_option maxHeartbeats 4000000 in
set_option maxRecDepth 100000 in
theorem kX4_greatestRest (l : Launch) (dC : Nat → ClassId) (dI : Nat → Nat → Nat) (ca : Nat → ClassId) (ad : Nat → Nat) (S : sSt)  : ct_I l yX4_greatestRest (Cond.code yX4_greatestRest cX4_greatestRest 3 (some .int) :: wa_T) ({ frames := 0, cells := 0, slots := 0, locals := 0 } : Room) (dC, dI) vwCl (tyl ca) (wc ca ad) S [.ref (ad 5)] (fun r S2 => r = nI (gRest S 5) ∧ S2 = S) := by
  refine ct_ofI (by decide) (Nat.le_of_ble_eq_true rfl) ?_
  intro p e s m below meth c A ls hx hb hr hml hts hown hlocks hK hA hw hl
  have hl : lv_has ls 3 [(0, .ref (ad 5))] := hl
  refine lv_iconst (v := nI 0) hx hb dX4_greatestRest_0 (by decide) ?_
  refine lv_istore_n (lv' := [(1, .int (nI 0)), (0, .ref (ad 5))]) hx hb dX4_greatestRest_1 rfl hl (by decide) rfl (fun ls hl => ?_)
  refine lv_iconst (v := nI 1) hx hb dX4_greatestRest_2 (by decide) ?_
  refine lv_istore_n (lv' := [(2, .int (nI 1)), (1, .int (nI 0)), (0, .ref (ad 5))]) hx hb dX4_greatestRest_3 rfl hl (by decide) rfl (fun ls hl => ?_)
  have lp_4 : ∀ (n : Nat) (i : Nat), i ≤ 5 → 6 ≤ i + n → ∀ (H : Heap) (locs : List Loc) (ls : Array Slot), wo_w (dC, dI) vwCl A s.heap (wc ca ad S) H locs → lv_has ls 3 [(0, .ref (ad 5)), (1, .int (nI (gRest S i))), (2, .int (nI (i + 1)))] → W p l e ({ frames := 0, cells := 0, slots := 0, locals := 0 } : Room) s m ([.ref (ad 5)] : List Value).toArray below meth c H locs 0 0 (MQ below (va_Qi (fun r S2 => r = nI (gRest S 5) ∧ S2 = S) (ct_B (dC, dI) vwCl (tyl ca) (wc ca ad) A) A) ([.ref (ad 5)] : List Value).toArray s 0 0 A) (F0 m 4 ls []) := by
    intro n
    induction n with
    | zero =>
      intro i hi hn
      exfalso
      omega
    | succ n ih_4 =>
      intro i hi hn H locs ls hw hl
      have hg := gRest_le S i
      refine lv_iload_n hx hb dX4_greatestRest_4 rfl (lv_at hl 2 rfl) ?_
      refine lv_bipush (v := nI 6) hx hb dX4_greatestRest_5 (by decide) ?_
      refine lv_icmp_ge (tgt := 34) hx hb dX4_greatestRest_7 (by decide) (fun c_1 => ?_) (fun c_1 => ?_)
      · skip
        have c_1 : 6 ≤ (i + 1) := (nI_leI (a := 6) (b := i + 1) (by omega) (by omega)).mp c_1
        obtain rfl : 5 = i := by omega
        refine lv_iload_n hx hb dX4_greatestRest_34 rfl (lv_at hl 1 rfl) ?_
        exact ct_iret (S := S) (v := nI (gRest S 5)) hx hb hr hlocks hK hw (⟨rfl, rfl⟩) dX4_greatestRest_35
      · skip
        have c_1 : ¬ (6 ≤ (i + 1)) := fun h9 => c_1 ((nI_leI (a := 6) (b := i + 1) (by omega) (by omega)).mpr h9)
        refine lv_aload_n hx hb dX4_greatestRest_10 rfl (lv_at hl 0 rfl) ?_
        refine wo_get hx hb hts inX4 hown hK hw 5 rfl rfl 2 (by decide) (hts _ wd_158) (fun _ h9 => h9) rfl dX4_greatestRest_11 ?_
        refine lv_iload_n hx hb dX4_greatestRest_14 rfl (lv_at hl 2 rfl) ?_
        refine wo_lald hx hb hK hw 51 1 rfl rfl (i + 1) rfl (by first | assumption | omega) (by decide) dX4_greatestRest_15 ?_
        refine lv_aload_n hx hb dX4_greatestRest_16 rfl (lv_at hl 0 rfl) ?_
        refine wo_get hx hb hts inX4 hown hK hw 5 rfl rfl 2 (by decide) (hts _ wd_158) (fun _ h9 => h9) rfl dX4_greatestRest_17 ?_
        refine lv_iload_n hx hb dX4_greatestRest_20 rfl (lv_at hl 1 rfl) ?_
        refine wo_lald hx hb hK hw 51 1 rfl rfl (gRest S i) rfl (by first | assumption | omega) (by decide) dX4_greatestRest_21 ?_
        refine lc_le (tgt := 28) hx hb dX4_greatestRest_22 dX4_greatestRest_23 (by decide) (fun c_2 => ?_) (fun c_2 => ?_)
        · skip
          refine lv_iinc (v := nI ((i + 1) + 1)) (lv' := [(2, .int (nI ((i + 1) + 1))), (0, .ref (ad 5)), (1, .int (nI (gRest S i)))]) hx hb dX4_greatestRest_28 hl (k := 2) rfl (nI_inc _) (by decide) rfl (fun ls hl => ?_)
          refine lv_goto (tgt := 4) hx hb dX4_greatestRest_31 (by decide) ?_
          have e9 : nI (gRest S i) = nI (gRest S (i + 1)) := by first | rfl | (simp only [gRest, c_1, c_2, ↓reduceIte]; done)
          rw [e9] at hl
          exact ih_4 (i + 1) (by omega) (by omega) _ _ _ hw (lv_sub hl [1, 2, 0] rfl)
        · skip
          refine lv_iload_n hx hb dX4_greatestRest_26 rfl (lv_at hl 2 rfl) ?_
          refine lv_istore_n (lv' := [(1, .int (nI (i + 1))), (0, .ref (ad 5)), (2, .int (nI (i + 1)))]) hx hb dX4_greatestRest_27 rfl hl (by decide) rfl (fun ls hl => ?_)
          refine lv_iinc (v := nI ((i + 1) + 1)) (lv' := [(2, .int (nI ((i + 1) + 1))), (1, .int (nI (i + 1))), (0, .ref (ad 5))]) hx hb dX4_greatestRest_28 hl (k := 2) rfl (nI_inc _) (by decide) rfl (fun ls hl => ?_)
          refine lv_goto (tgt := 4) hx hb dX4_greatestRest_31 (by decide) ?_
          have e9 : nI (i + 1) = nI (gRest S (i + 1)) := by first | rfl | (simp only [gRest, c_1, c_2, ↓reduceIte]; done)
          rw [e9] at hl
          exact ih_4 (i + 1) (by omega) (by omega) _ _ _ hw (lv_sub hl [2, 1, 0] rfl)
  have e9 : nI 0 = nI (gRest S 0) := by first | rfl | (simp only [gRest, ↓reduceIte]; done)
  rw [e9] at hl
  have e9 : nI 1 = nI (0 + 1) := by first | rfl | (simp only [gRest, ↓reduceIte]; done)
  rw [e9] at hl
  exact lp_4 6 0 (by omega) (by omega) _ _ _ hw (lv_sub hl [2, 1, 0] rfl)
end
section
theorem dJ7_fill_0 : decode cJ7_fill 0 = .ok (.iconst 0, 1) := by decide +kernel
theorem dJ7_fill_1 : decode cJ7_fill 1 = .ok (.istore_n 3, 1) := by decide +kernel
theorem dJ7_fill_2 : decode cJ7_fill 2 = .ok (.aload_n 0, 1) := by decide +kernel
theorem dJ7_fill_3 : decode cJ7_fill 3 = .ok (.arraylength, 1) := by decide +kernel
theorem dJ7_fill_4 : decode cJ7_fill 4 = .ok (.istore 4, 2) := by decide +kernel
theorem dJ7_fill_6 : decode cJ7_fill 6 = .ok (.iload_n 3, 1) := by decide +kernel
theorem dJ7_fill_7 : decode cJ7_fill 7 = .ok (.iload 4, 2) := by decide +kernel
theorem dJ7_fill_9 : decode cJ7_fill 9 = .ok (.if_icmp .ge 13, 3) := by decide +kernel
theorem dJ7_fill_12 : decode cJ7_fill 12 = .ok (.aload_n 0, 1) := by decide +kernel
theorem dJ7_fill_13 : decode cJ7_fill 13 = .ok (.iload_n 3, 1) := by decide +kernel
theorem dJ7_fill_14 : decode cJ7_fill 14 = .ok (.lload_n 1, 1) := by decide +kernel
theorem dJ7_fill_15 : decode cJ7_fill 15 = .ok (.lastore, 1) := by decide +kernel
theorem dJ7_fill_16 : decode cJ7_fill 16 = .ok (.iinc 3 1, 3) := by decide +kernel
theorem dJ7_fill_19 : decode cJ7_fill 19 = .ok (.goto (-13), 3) := by decide +kernel
theorem dJ7_fill_22 : decode cJ7_fill 22 = .ok (.return_, 1) := by decide +kernel

theorem dX4_split_0 : decode cX4_split 0 = .ok (.aload_n 0, 1) := by decide +kernel
theorem dX4_split_1 : decode cX4_split 1 = .ok (.invokevirtual 21, 3) := by decide +kernel
theorem dX4_split_4 : decode cX4_split 4 = .ok (.lstore_n 3, 1) := by decide +kernel
theorem dX4_split_5 : decode cX4_split 5 = .ok (.lload_n 3, 1) := by decide +kernel
theorem dX4_split_6 : decode cX4_split 6 = .ok (.lconst 0, 1) := by decide +kernel
theorem dX4_split_7 : decode cX4_split 7 = .ok (.lcmp, 1) := by decide +kernel
theorem dX4_split_8 : decode cX4_split 8 = .ok (.ifCond .gt 12, 3) := by decide +kernel
theorem dX4_split_11 : decode cX4_split 11 = .ok (.aload_n 0, 1) := by decide +kernel
theorem dX4_split_12 : decode cX4_split 12 = .ok (.getfield 15, 3) := by decide +kernel
theorem dX4_split_15 : decode cX4_split 15 = .ok (.lconst 0, 1) := by decide +kernel
theorem dX4_split_16 : decode cX4_split 16 = .ok (.invokestatic 25, 3) := by decide +kernel
theorem dX4_split_19 : decode cX4_split 19 = .ok (.return_, 1) := by decide +kernel
theorem dX4_split_20 : decode cX4_split 20 = .ok (.lload_n 1, 1) := by decide +kernel
theorem dX4_split_21 : decode cX4_split 21 = .ok (.lstore 5, 2) := by decide +kernel
theorem dX4_split_23 : decode cX4_split 23 = .ok (.iconst 0, 1) := by decide +kernel
theorem dX4_split_24 : decode cX4_split 24 = .ok (.istore 7, 2) := by decide +kernel
theorem dX4_split_26 : decode cX4_split 26 = .ok (.iload 7, 2) := by decide +kernel
theorem dX4_split_28 : decode cX4_split 28 = .ok (.bipush 6, 2) := by decide +kernel
theorem dX4_split_30 : decode cX4_split 30 = .ok (.if_icmp .ge 54, 3) := by decide +kernel
theorem dX4_split_33 : decode cX4_split 33 = .ok (.lload_n 1, 1) := by decide +kernel
theorem dX4_split_34 : decode cX4_split 34 = .ok (.aload_n 0, 1) := by decide +kernel
theorem dX4_split_35 : decode cX4_split 35 = .ok (.getfield 9, 3) := by decide +kernel
theorem dX4_split_38 : decode cX4_split 38 = .ok (.iload 7, 2) := by decide +kernel
theorem dX4_split_40 : decode cX4_split 40 = .ok (.laload, 1) := by decide +kernel
theorem dX4_split_41 : decode cX4_split 41 = .ok (.lmul, 1) := by decide +kernel
theorem dX4_split_42 : decode cX4_split 42 = .ok (.lstore 8, 2) := by decide +kernel
theorem dX4_split_44 : decode cX4_split 44 = .ok (.aload_n 0, 1) := by decide +kernel
theorem dX4_split_45 : decode cX4_split 45 = .ok (.getfield 15, 3) := by decide +kernel
theorem dX4_split_48 : decode cX4_split 48 = .ok (.iload 7, 2) := by decide +kernel
theorem dX4_split_50 : decode cX4_split 50 = .ok (.lload 8, 2) := by decide +kernel
theorem dX4_split_52 : decode cX4_split 52 = .ok (.lload_n 3, 1) := by decide +kernel
theorem dX4_split_53 : decode cX4_split 53 = .ok (.ldiv, 1) := by decide +kernel
theorem dX4_split_54 : decode cX4_split 54 = .ok (.lastore, 1) := by decide +kernel
theorem dX4_split_55 : decode cX4_split 55 = .ok (.aload_n 0, 1) := by decide +kernel
theorem dX4_split_56 : decode cX4_split 56 = .ok (.getfield 18, 3) := by decide +kernel
theorem dX4_split_59 : decode cX4_split 59 = .ok (.iload 7, 2) := by decide +kernel
theorem dX4_split_61 : decode cX4_split 61 = .ok (.lload 8, 2) := by decide +kernel
theorem dX4_split_63 : decode cX4_split 63 = .ok (.lload_n 3, 1) := by decide +kernel
theorem dX4_split_64 : decode cX4_split 64 = .ok (.lrem, 1) := by decide +kernel
theorem dX4_split_65 : decode cX4_split 65 = .ok (.lastore, 1) := by decide +kernel
theorem dX4_split_66 : decode cX4_split 66 = .ok (.lload 5, 2) := by decide +kernel
theorem dX4_split_68 : decode cX4_split 68 = .ok (.aload_n 0, 1) := by decide +kernel
theorem dX4_split_69 : decode cX4_split 69 = .ok (.getfield 15, 3) := by decide +kernel
theorem dX4_split_72 : decode cX4_split 72 = .ok (.iload 7, 2) := by decide +kernel
theorem dX4_split_74 : decode cX4_split 74 = .ok (.laload, 1) := by decide +kernel
theorem dX4_split_75 : decode cX4_split 75 = .ok (.lsub, 1) := by decide +kernel
theorem dX4_split_76 : decode cX4_split 76 = .ok (.lstore 5, 2) := by decide +kernel
theorem dX4_split_78 : decode cX4_split 78 = .ok (.iinc 7 1, 3) := by decide +kernel
theorem dX4_split_81 : decode cX4_split 81 = .ok (.goto (-55), 3) := by decide +kernel
theorem dX4_split_84 : decode cX4_split 84 = .ok (.iconst 0, 1) := by decide +kernel
theorem dX4_split_85 : decode cX4_split 85 = .ok (.istore 7, 2) := by decide +kernel
theorem dX4_split_87 : decode cX4_split 87 = .ok (.iload 7, 2) := by decide +kernel
theorem dX4_split_89 : decode cX4_split 89 = .ok (.bipush 6, 2) := by decide +kernel
theorem dX4_split_91 : decode cX4_split 91 = .ok (.if_icmp .ge 49, 3) := by decide +kernel
theorem dX4_split_94 : decode cX4_split 94 = .ok (.lload 5, 2) := by decide +kernel
theorem dX4_split_96 : decode cX4_split 96 = .ok (.lconst 0, 1) := by decide +kernel
theorem dX4_split_97 : decode cX4_split 97 = .ok (.lcmp, 1) := by decide +kernel
theorem dX4_split_98 : decode cX4_split 98 = .ok (.ifCond .le 42, 3) := by decide +kernel
theorem dX4_split_101 : decode cX4_split 101 = .ok (.aload_n 0, 1) := by decide +kernel
theorem dX4_split_102 : decode cX4_split 102 = .ok (.invokevirtual 31, 3) := by decide +kernel
theorem dX4_split_105 : decode cX4_split 105 = .ok (.istore 8, 2) := by decide +kernel
theorem dX4_split_107 : decode cX4_split 107 = .ok (.aload_n 0, 1) := by decide +kernel
theorem dX4_split_108 : decode cX4_split 108 = .ok (.getfield 15, 3) := by decide +kernel
theorem dX4_split_111 : decode cX4_split 111 = .ok (.iload 8, 2) := by decide +kernel
theorem dX4_split_113 : decode cX4_split 113 = .ok (.dup2, 1) := by decide +kernel
theorem dX4_split_114 : decode cX4_split 114 = .ok (.laload, 1) := by decide +kernel
theorem dX4_split_115 : decode cX4_split 115 = .ok (.lconst 1, 1) := by decide +kernel
theorem dX4_split_116 : decode cX4_split 116 = .ok (.ladd, 1) := by decide +kernel
theorem dX4_split_117 : decode cX4_split 117 = .ok (.lastore, 1) := by decide +kernel
theorem dX4_split_118 : decode cX4_split 118 = .ok (.aload_n 0, 1) := by decide +kernel
theorem dX4_split_119 : decode cX4_split 119 = .ok (.getfield 18, 3) := by decide +kernel
theorem dX4_split_122 : decode cX4_split 122 = .ok (.iload 8, 2) := by decide +kernel
theorem dX4_split_124 : decode cX4_split 124 = .ok (.ldc2_w 35, 3) := by decide +kernel
theorem dX4_split_127 : decode cX4_split 127 = .ok (.lastore, 1) := by decide +kernel
theorem dX4_split_128 : decode cX4_split 128 = .ok (.lload 5, 2) := by decide +kernel
theorem dX4_split_130 : decode cX4_split 130 = .ok (.lconst 1, 1) := by decide +kernel
theorem dX4_split_131 : decode cX4_split 131 = .ok (.lsub, 1) := by decide +kernel
theorem dX4_split_132 : decode cX4_split 132 = .ok (.lstore 5, 2) := by decide +kernel
theorem dX4_split_134 : decode cX4_split 134 = .ok (.iinc 7 1, 3) := by decide +kernel
theorem dX4_split_137 : decode cX4_split 137 = .ok (.goto (-50), 3) := by decide +kernel
theorem dX4_split_140 : decode cX4_split 140 = .ok (.return_, 1) := by decide +kernel

set_option maxHeartbeats 4000000 in
set_option maxRecDepth 100000 in
theorem kJ7_fill (l : Launch) (dC : Nat → ClassId) (dI : Nat → Nat → Nat) (ca : Nat → ClassId) (ad : Nat → Nat) (S : sSt) (vv : Int64) : ct_V l yJ7_fill (Cond.code yJ7_fill cJ7_fill 5 none :: wa_T) ({ frames := 0, cells := 0, slots := 0, locals := 0 } : Room) (dC, dI) vwCl (tyl ca) (wc ca ad) S [.ref (ad 50), .long vv] (fun S2 => S2 = flL S vv 6) := by
  refine ct_ofV (by decide) (Nat.le_of_ble_eq_true rfl) ?_
  intro p e s m below meth c A ls hx hb hr hml hts hown hlocks hK hA hw hl
  have hl : lv_has ls 5 [(0, .ref (ad 50)), (1, .long vv)] := hl
  refine lv_iconst (v := nI 0) hx hb dJ7_fill_0 (by decide) ?_
  refine lv_istore_n (lv' := [(3, .int (nI 0)), (0, .ref (ad 50)), (1, .long vv)]) hx hb dJ7_fill_1 rfl hl (by decide) rfl (fun ls hl => ?_)
  refine lv_aload_n hx hb dJ7_fill_2 rfl (lv_at hl 1 rfl) ?_
  refine wo_alen hx hb hK hw 50 1 rfl rfl dJ7_fill_3 ?_
  refine lv_istore (lv' := [(4, .int (nI 6)), (3, .int (nI 0)), (0, .ref (ad 50)), (1, .long vv)]) hx hb dJ7_fill_4 hl (by decide) rfl (fun ls hl => ?_)
  have lp_6 : ∀ (n : Nat) (i : Nat), i ≤ 6 → 7 ≤ i + n → ∀ (H : Heap) (locs : List Loc) (ls : Array Slot), wo_w (dC, dI) vwCl A s.heap (wc ca ad (flL S vv i)) H locs → lv_has ls 5 [(0, .ref (ad 50)), (1, .long vv), (3, .int (nI i)), (4, .int (nI 6))] → W p l e ({ frames := 0, cells := 0, slots := 0, locals := 0 } : Room) s m ([.ref (ad 50), .long vv] : List Value).toArray below meth c H locs 0 0 (MQ below (va_Qv (fun S2 => S2 = flL S vv 6) (ct_B (dC, dI) vwCl (tyl ca) (wc ca ad) A) A) ([.ref (ad 50), .long vv] : List Value).toArray s 0 0 A) (F0 m 6 ls []) := by
    intro n
    induction n with
    | zero =>
      intro i hi hn
      exfalso
      omega
    | succ n ih_6 =>
      intro i hi hn H locs ls hw hl
      refine lv_iload_n hx hb dJ7_fill_6 rfl (lv_at hl 2 rfl) ?_
      refine lv_iload hx hb dJ7_fill_7 (lv_at hl 3 rfl) ?_
      refine lv_icmp_ge (tgt := 22) hx hb dJ7_fill_9 (by decide) (fun c_1 => ?_) (fun c_1 => ?_)
      · skip
        have c_1 : 6 ≤ i := (nI_leI (a := 6) (b := i) (by omega) (by omega)).mp c_1
        obtain rfl : 6 = i := by omega
        exact ct_vret (S := flL S vv 6) hx hb hr hlocks hK hw (rfl) dJ7_fill_22
      · skip
        have c_1 : ¬ (6 ≤ i) := fun h9 => c_1 ((nI_leI (a := 6) (b := i) (by omega) (by omega)).mpr h9)
        refine lv_aload_n hx hb dJ7_fill_12 rfl (lv_at hl 0 rfl) ?_
        refine lv_iload_n hx hb dJ7_fill_13 rfl (lv_at hl 2 rfl) ?_
        refine lv_lload_n hx hb dJ7_fill_14 rfl (lv_at hl 1 rfl) ?_
        refine wo_last hx hb hK hw 50 1 rfl rfl i rfl (by first | assumption | omega) (by decide) (se_50 ca ad (flL S vv i) i vv) dJ7_fill_15 (fun H locs hw => ?_)
        refine lv_iinc (v := nI (i + 1)) (lv' := [(3, .int (nI (i + 1))), (0, .ref (ad 50)), (1, .long vv), (4, .int (nI 6))]) hx hb dJ7_fill_16 hl (k := 2) rfl (nI_inc _) (by decide) rfl (fun ls hl => ?_)
        refine lv_goto (tgt := 6) hx hb dJ7_fill_19 (by decide) ?_
        have e9 : sL (flL S vv i) 50 i vv = flL S vv (i + 1) := rfl
        rw [e9] at hw
        exact ih_6 (i + 1) (by omega) (by omega) _ _ _ hw (lv_sub hl [1, 2, 0, 3] rfl)
  have e9 : S = flL S vv 0 := rfl
  rw [e9] at hw
  exact lp_6 7 0 (by omega) (by omega) _ _ _ hw (lv_sub hl [2, 3, 1, 0] rfl)

set_option maxHeartbeats 4000000 in
set_option maxRecDepth 100000 in
theorem kX4_split (l : Launch) (dC : Nat → ClassId) (dI : Nat → Nat → Nat) (ca : Nat → ClassId) (ad : Nat → Nat) (S : sSt) (room : Int64) : ct_V l yX4_split (Cond.code yX4_split cX4_split 10 none :: wa_T) ({ frames := 1, cells := 0, slots := 0, locals := 24 } : Room) (dC, dI) vwCl (tyl ca) (wc ca ad) S [.ref (ad 5), .long room] (fun S2 => S2 = splF S room) := by
  refine ct_ofV (by decide) (Nat.le_of_ble_eq_true rfl) ?_
  intro p e s m below meth c A ls hx hb hr hml hts hown hlocks hK hA hw hl
  have hl : lv_has ls 10 [(0, .ref (ad 5)), (1, .long room)] := hl
  refine lv_aload_n hx hb dX4_split_0 rfl (lv_at hl 0 rfl) ?_
  refine wo_vL (As := []) (rest := []) (kX4_allWeights l dC dI ca ad S ) ⟨hx, hb, hml, hown, hts⟩ (cwV 0 hts (wa_gV wd_330 wd_331 wd_332 wd_7 wd_333) rfl rfl rfl (by decide +kernel) ⟨Nat.le_of_ble_eq_true rfl, Nat.le_of_ble_eq_true rfl⟩) hK hw hA 5 rfl rfl rfl rfl hl.1 rfl (Nat.le_of_ble_eq_true rfl) dX4_split_1 ⟨Nat.zero_le _, Nat.zero_le _⟩ (fun r_1 S_1 H locs hp_1 hw => ?_)
  have e9 := hp_1.1.symm
  subst e9
  have e9 := hp_1.2.symm
  subst e9
  refine lv_lstore_n (lv' := [(3, .long (sumW S 6)), (0, .ref (ad 5)), (1, .long room)]) hx hb dX4_split_4 rfl hl (by decide) rfl (fun ls hl => ?_)
  refine lv_lload_n hx hb dX4_split_5 rfl (lv_at hl 0 rfl) ?_
  refine lv_lconst (v := 0) hx hb dX4_split_6 (by decide) ?_
  refine lc_gt (tgt := 20) hx hb dX4_split_7 dX4_split_8 (by decide) (fun c_2 => ?_) (fun c_2 => ?_)
  · skip
    have hall := c_2
    have hne : ¬ sumW S 6 = 0 := fun e => by rw [e] at hall; exact absurd hall (by decide)
    refine lv_lload_n hx hb dX4_split_20 rfl (lv_at hl 2 rfl) ?_
    refine lv_lstore (lv' := [(5, .long room), (3, .long (sumW S 6)), (0, .ref (ad 5)), (1, .long room)]) hx hb dX4_split_21 hl (by decide) rfl (fun ls hl => ?_)
    refine lv_iconst (v := nI 0) hx hb dX4_split_23 (by decide) ?_
    refine lv_istore (lv' := [(7, .int (nI 0)), (5, .long room), (3, .long (sumW S 6)), (0, .ref (ad 5)), (1, .long room)]) hx hb dX4_split_24 hl (by decide) rfl (fun ls hl => ?_)
    have lp_26 : ∀ (n : Nat) (i : Nat), i ≤ 6 → 7 ≤ i + n → ∀ (H : Heap) (locs : List Loc) (ls : Array Slot), wo_w (dC, dI) vwCl A s.heap (wc ca ad ((spl1 S room (sumW S 6) i).1)) H locs → lv_has ls 10 [(0, .ref (ad 5)), (1, .long room), (3, .long (sumW S 6)), (5, .long ((spl1 S room (sumW S 6) i).2)), (7, .int (nI i))] → W p l e ({ frames := 1, cells := 0, slots := 0, locals := 24 } : Room) s m ([.ref (ad 5), .long room] : List Value).toArray below meth c H locs 0 0 (MQ below (va_Qv (fun S2 => S2 = splF S room) (ct_B (dC, dI) vwCl (tyl ca) (wc ca ad) A) A) ([.ref (ad 5), .long room] : List Value).toArray s 0 0 A) (F0 m 26 ls []) := by
      intro n
      induction n with
      | zero =>
        intro i hi hn
        exfalso
        omega
      | succ n ih_26 =>
        intro i hi hn H locs ls hw hl
        refine lv_iload hx hb dX4_split_26 (lv_at hl 4 rfl) ?_
        refine lv_bipush (v := nI 6) hx hb dX4_split_28 (by decide) ?_
        refine lv_icmp_ge (tgt := 84) hx hb dX4_split_30 (by decide) (fun c_3 => ?_) (fun c_3 => ?_)
        · skip
          have c_3 : 6 ≤ i := (nI_leI (a := 6) (b := i) (by omega) (by omega)).mp c_3
          obtain rfl : 6 = i := by omega
          refine lv_iconst (v := nI 0) hx hb dX4_split_84 (by decide) ?_
          refine lv_istore (lv' := [(7, .int (nI 0)), (0, .ref (ad 5)), (1, .long room), (3, .long (sumW S 6)), (5, .long ((spl1 S room (sumW S 6) 6).2))]) hx hb dX4_split_85 hl (by decide) rfl (fun ls hl => ?_)
          have lp_87 : ∀ (n : Nat) (i : Nat) (X : sSt × Int64), i ≤ 6 → 7 ≤ i + n → spl2 (6 - i) X = spl2 6 (spl1 S room (sumW S 6) 6) → ∀ (H : Heap) (locs : List Loc) (ls : Array Slot), wo_w (dC, dI) vwCl A s.heap (wc ca ad X.1) H locs → lv_has ls 10 [(0, .ref (ad 5)), (5, .long X.2), (7, .int (nI i))] → W p l e ({ frames := 1, cells := 0, slots := 0, locals := 24 } : Room) s m ([.ref (ad 5), .long room] : List Value).toArray below meth c H locs 0 0 (MQ below (va_Qv (fun S2 => S2 = splF S room) (ct_B (dC, dI) vwCl (tyl ca) (wc ca ad) A) A) ([.ref (ad 5), .long room] : List Value).toArray s 0 0 A) (F0 m 87 ls []) := by
            intro n
            induction n with
            | zero =>
              intro i X hi hn hrem
              exfalso
              omega
            | succ n ih_87 =>
              intro i X hi hn hrem H locs ls hw hl
              have hg := gRest_le X.1 5
              refine lv_iload hx hb dX4_split_87 (lv_at hl 2 rfl) ?_
              refine lv_bipush (v := nI 6) hx hb dX4_split_89 (by decide) ?_
              refine lv_icmp_ge (tgt := 140) hx hb dX4_split_91 (by decide) (fun c_4 => ?_) (fun c_4 => ?_)
              · skip
                have c_4 : 6 ≤ i := (nI_leI (a := 6) (b := i) (by omega) (by omega)).mp c_4
                have hX := spl2_end hrem (by omega)
                exact ct_vret (S := X.1) hx hb hr hlocks hK hw (by rw [splF, if_pos hall, ← hX]) dX4_split_140
              · skip
                have c_4 : ¬ (6 ≤ i) := fun h9 => c_4 ((nI_leI (a := 6) (b := i) (by omega) (by omega)).mpr h9)
                refine lv_lload hx hb dX4_split_94 (lv_at hl 1 rfl) ?_
                refine lv_lconst (v := 0) hx hb dX4_split_96 (by decide) ?_
                refine lc_le (tgt := 140) hx hb dX4_split_97 dX4_split_98 (by decide) (fun c_5 => ?_) (fun c_5 => ?_)
                · skip
                  have hX := spl2_stop hrem c_5
                  exact ct_vret (S := X.1) hx hb hr hlocks hK hw (by rw [splF, if_pos hall, ← hX]) dX4_split_140
                · skip
                  refine lv_aload_n hx hb dX4_split_101 rfl (lv_at hl 0 rfl) ?_
                  refine wo_vI (As := []) (rest := []) (kX4_greatestRest l dC dI ca ad X.1 ) ⟨hx, hb, hml, hown, hts⟩ (cwV 0 hts (wa_gV wd_335 wd_337 ws_7 wd_7 wd_338) rfl rfl rfl (by decide +kernel) ⟨Nat.le_of_ble_eq_true rfl, Nat.le_of_ble_eq_true rfl⟩) hK hw hA 5 rfl rfl rfl rfl hl.1 rfl (Nat.le_of_ble_eq_true rfl) dX4_split_102 ⟨Nat.zero_le _, Nat.zero_le _⟩ (fun r_6 S_6 H locs hp_6 hw => ?_)
                  have e9 := hp_6.1.symm
                  subst e9
                  have e9 := hp_6.2.symm
                  subst e9
                  refine lv_istore (lv' := [(8, .int (nI (gRest X.1 5))), (0, .ref (ad 5)), (5, .long X.2), (7, .int (nI i))]) hx hb dX4_split_105 hl (by decide) rfl (fun ls hl => ?_)
                  refine lv_aload_n hx hb dX4_split_107 rfl (lv_at hl 1 rfl) ?_
                  refine wo_get hx hb hts inX4 hown hK hw 5 rfl rfl 1 (by decide) (hts _ wd_156) (fun _ h9 => h9) rfl dX4_split_108 ?_
                  refine lv_iload hx hb dX4_split_111 (lv_at hl 0 rfl) ?_
                  refine lv_dup2_11 hx hb dX4_split_113 rfl rfl ?_
                  refine wo_lald hx hb hK hw 50 1 rfl rfl (gRest X.1 5) rfl (by first | assumption | omega) (by decide) dX4_split_114 ?_
                  refine lv_lconst (v := 1) hx hb dX4_split_115 (by decide) ?_
                  refine lv_ladd hx hb dX4_split_116 ?_
                  refine wo_last hx hb hK hw 50 1 rfl rfl (gRest X.1 5) rfl (by first | assumption | omega) (by decide) (se_50 ca ad X.1 (gRest X.1 5) ((X.1.2 50 (gRest X.1 5)) + 1)) dX4_split_117 (fun H locs hw => ?_)
                  refine lv_aload_n hx hb dX4_split_118 rfl (lv_at hl 1 rfl) ?_
                  refine wo_get hx hb hts inX4 hown hK hw 5 rfl rfl 2 (by decide) (hts _ wd_158) (fun _ h9 => h9) rfl dX4_split_119 ?_
                  refine lv_iload hx hb dX4_split_122 (lv_at hl 0 rfl) ?_
                  refine lv_ldc2 hx hb hown (hts _ wd_339) dX4_split_124 ?_
                  refine wo_last hx hb hK hw 51 1 rfl rfl (gRest X.1 5) rfl (by first | assumption | omega) (by decide) (se_51 ca ad (sL X.1 50 (gRest X.1 5) ((X.1.2 50 (gRest X.1 5)) + 1)) (gRest X.1 5) (-1)) dX4_split_127 (fun H locs hw => ?_)
                  refine lv_lload hx hb dX4_split_128 (lv_at hl 2 rfl) ?_
                  refine lv_lconst (v := 1) hx hb dX4_split_130 (by decide) ?_
                  refine lv_lsub hx hb dX4_split_131 ?_
                  refine lv_lstore (lv' := [(5, .long (X.2 - 1)), (8, .int (nI (gRest X.1 5))), (0, .ref (ad 5)), (7, .int (nI i))]) hx hb dX4_split_132 hl (by decide) rfl (fun ls hl => ?_)
                  refine lv_iinc (v := nI (i + 1)) (lv' := [(7, .int (nI (i + 1))), (5, .long (X.2 - 1)), (8, .int (nI (gRest X.1 5))), (0, .ref (ad 5))]) hx hb dX4_split_134 hl (k := 3) rfl (nI_inc _) (by decide) rfl (fun ls hl => ?_)
                  refine lv_goto (tgt := 87) hx hb dX4_split_137 (by decide) ?_
                  have e9 : X.2 - 1 = (sp2 X).2 := rfl
                  rw [e9] at hl
                  have e9 : sL (sL X.1 50 (gRest X.1 5) ((X.1.2 50 (gRest X.1 5)) + 1)) 51 (gRest X.1 5) (-1) = (sp2 X).1 := rfl
                  rw [e9] at hw
                  exact ih_87 (i + 1) (sp2 X) (by omega) (by omega) (spl2_step hrem (by omega) c_5) _ _ _ hw (lv_sub hl [3, 1, 0] rfl)
          exact lp_87 7 0 (spl1 S room (sumW S 6) 6) (by omega) (by omega) rfl _ _ _ hw (lv_sub hl [1, 4, 0] rfl)
        · skip
          have c_3 : ¬ (6 ≤ i) := fun h9 => c_3 ((nI_leI (a := 6) (b := i) (by omega) (by omega)).mpr h9)
          refine lv_lload_n hx hb dX4_split_33 rfl (lv_at hl 1 rfl) ?_
          refine lv_aload_n hx hb dX4_split_34 rfl (lv_at hl 0 rfl) ?_
          refine wo_get hx hb hts inX4 hown hK hw 5 rfl rfl 0 (by decide) (hts _ wd_154) (fun _ h9 => h9) rfl dX4_split_35 ?_
          refine lv_iload hx hb dX4_split_38 (lv_at hl 4 rfl) ?_
          refine wo_lald hx hb hK hw 49 1 rfl rfl i rfl (by first | assumption | omega) (by decide) dX4_split_40 ?_
          refine lv_lmul hx hb dX4_split_41 ?_
          refine lv_lstore (lv' := [(8, .long (room * (((spl1 S room (sumW S 6) i).1).2 49 i))), (0, .ref (ad 5)), (1, .long room), (3, .long (sumW S 6)), (5, .long ((spl1 S room (sumW S 6) i).2)), (7, .int (nI i))]) hx hb dX4_split_42 hl (by decide) rfl (fun ls hl => ?_)
          refine lv_aload_n hx hb dX4_split_44 rfl (lv_at hl 1 rfl) ?_
          refine wo_get hx hb hts inX4 hown hK hw 5 rfl rfl 1 (by decide) (hts _ wd_156) (fun _ h9 => h9) rfl dX4_split_45 ?_
          refine lv_iload hx hb dX4_split_48 (lv_at hl 5 rfl) ?_
          refine lv_lload hx hb dX4_split_50 (lv_at hl 0 rfl) ?_
          refine lv_lload_n hx hb dX4_split_52 rfl (lv_at hl 3 rfl) ?_
          refine lv_ldiv hx hb dX4_split_53 (by first | assumption | omega) ?_
          refine wo_last hx hb hK hw 50 1 rfl rfl i rfl (by first | assumption | omega) (by decide) (se_50 ca ad ((spl1 S room (sumW S 6) i).1) i ((room * (((spl1 S room (sumW S 6) i).1).2 49 i)) / (sumW S 6))) dX4_split_54 (fun H locs hw => ?_)
          refine lv_aload_n hx hb dX4_split_55 rfl (lv_at hl 1 rfl) ?_
          refine wo_get hx hb hts inX4 hown hK hw 5 rfl rfl 2 (by decide) (hts _ wd_158) (fun _ h9 => h9) rfl dX4_split_56 ?_
          refine lv_iload hx hb dX4_split_59 (lv_at hl 5 rfl) ?_
          refine lv_lload hx hb dX4_split_61 (lv_at hl 0 rfl) ?_
          refine lv_lload_n hx hb dX4_split_63 rfl (lv_at hl 3 rfl) ?_
          refine lv_lrem hx hb dX4_split_64 (by first | assumption | omega) ?_
          refine wo_last hx hb hK hw 51 1 rfl rfl i rfl (by first | assumption | omega) (by decide) (se_51 ca ad (sL ((spl1 S room (sumW S 6) i).1) 50 i ((room * (((spl1 S room (sumW S 6) i).1).2 49 i)) / (sumW S 6))) i ((room * (((spl1 S room (sumW S 6) i).1).2 49 i)) - (room * (((spl1 S room (sumW S 6) i).1).2 49 i)) / (sumW S 6) * (sumW S 6))) dX4_split_65 (fun H locs hw => ?_)
          refine lv_lload hx hb dX4_split_66 (lv_at hl 4 rfl) ?_
          refine lv_aload_n hx hb dX4_split_68 rfl (lv_at hl 1 rfl) ?_
          refine wo_get hx hb hts inX4 hown hK hw 5 rfl rfl 1 (by decide) (hts _ wd_156) (fun _ h9 => h9) rfl dX4_split_69 ?_
          refine lv_iload hx hb dX4_split_72 (lv_at hl 5 rfl) ?_
          refine wo_lald hx hb hK hw 50 1 rfl rfl i rfl (by first | assumption | omega) (by decide) dX4_split_74 ?_
          refine lv_lsub hx hb dX4_split_75 ?_
          refine lv_lstore (lv' := [(5, .long (((spl1 S room (sumW S 6) i).2) - ((sL (sL ((spl1 S room (sumW S 6) i).1) 50 i ((room * (((spl1 S room (sumW S 6) i).1).2 49 i)) / (sumW S 6))) 51 i ((room * (((spl1 S room (sumW S 6) i).1).2 49 i)) - (room * (((spl1 S room (sumW S 6) i).1).2 49 i)) / (sumW S 6) * (sumW S 6))).2 50 i))), (8, .long (room * (((spl1 S room (sumW S 6) i).1).2 49 i))), (0, .ref (ad 5)), (1, .long room), (3, .long (sumW S 6)), (7, .int (nI i))]) hx hb dX4_split_76 hl (by decide) rfl (fun ls hl => ?_)
          refine lv_iinc (v := nI (i + 1)) (lv' := [(7, .int (nI (i + 1))), (5, .long (((spl1 S room (sumW S 6) i).2) - ((sL (sL ((spl1 S room (sumW S 6) i).1) 50 i ((room * (((spl1 S room (sumW S 6) i).1).2 49 i)) / (sumW S 6))) 51 i ((room * (((spl1 S room (sumW S 6) i).1).2 49 i)) - (room * (((spl1 S room (sumW S 6) i).1).2 49 i)) / (sumW S 6) * (sumW S 6))).2 50 i))), (8, .long (room * (((spl1 S room (sumW S 6) i).1).2 49 i))), (0, .ref (ad 5)), (1, .long room), (3, .long (sumW S 6))]) hx hb dX4_split_78 hl (k := 5) rfl (nI_inc _) (by decide) rfl (fun ls hl => ?_)
          refine lv_goto (tgt := 26) hx hb dX4_split_81 (by decide) ?_
          have e9 : ((spl1 S room (sumW S 6) i).2) - ((sL (sL ((spl1 S room (sumW S 6) i).1) 50 i ((room * (((spl1 S room (sumW S 6) i).1).2 49 i)) / (sumW S 6))) 51 i ((room * (((spl1 S room (sumW S 6) i).1).2 49 i)) - (room * (((spl1 S room (sumW S 6) i).1).2 49 i)) / (sumW S 6) * (sumW S 6))).2 50 i) = (spl1 S room (sumW S 6) (i + 1)).2 := rfl
          rw [e9] at hl
          have e9 : sL (sL ((spl1 S room (sumW S 6) i).1) 50 i ((room * (((spl1 S room (sumW S 6) i).1).2 49 i)) / (sumW S 6))) 51 i ((room * (((spl1 S room (sumW S 6) i).1).2 49 i)) - (room * (((spl1 S room (sumW S 6) i).1).2 49 i)) / (sumW S 6) * (sumW S 6)) = (spl1 S room (sumW S 6) (i + 1)).1 := rfl
          rw [e9] at hw
          exact ih_26 (i + 1) (by omega) (by omega) _ _ _ hw (lv_sub hl [3, 4, 5, 1, 0] rfl)
    have e9 : room = (spl1 S room (sumW S 6) 0).2 := rfl
    rw [e9] at hl
    have e9 : S = (spl1 S room (sumW S 6) 0).1 := rfl
    rw [e9] at hw
    exact lp_26 7 0 (by omega) (by omega) _ _ _ hw (lv_sub hl [3, 4, 2, 1, 0] rfl)
  · skip
    refine lv_aload_n hx hb dX4_split_11 rfl (lv_at hl 1 rfl) ?_
    refine wo_get hx hb hts inX4 hown hK hw 5 rfl rfl 1 (by decide) (hts _ wd_156) (fun _ h9 => h9) rfl dX4_split_12 ?_
    refine lv_lconst (v := 0) hx hb dX4_split_15 (by decide) ?_
    refine wo_sV (As := [.ref (ad 50), .long 0]) (rest := []) (kJ7_fill l dC dI ca ad S 0) ⟨hx, hb, hml, hown, hts⟩ (va_cwS 2 hts (wa_gS wd_334 wd_33 wd_3 wd_34) rfl rfl rfl (by decide +kernel) ⟨Nat.le_of_ble_eq_true rfl, Nat.le_of_ble_eq_true rfl⟩) hK hw hA rfl hl.1 rfl (Nat.le_of_ble_eq_true rfl) dX4_split_16 ⟨Nat.zero_le _, Nat.zero_le _⟩ (fun S_7 H locs hp_7 hw => ?_)
    have e9 := hp_7.symm
    subst e9
    exact ct_vret (S := flL S 0 6) hx hb hr hlocks hK hw (by rw [splF, if_neg c_2]) dX4_split_19
end
section
theorem dX5_isRoom_0 : decode cX5_isRoom 0 = .ok (.lload_n 0, 1) := by decide +kernel
theorem dX5_isRoom_1 : decode cX5_isRoom 1 = .ok (.lconst 0, 1) := by decide +kernel
theorem dX5_isRoom_2 : decode cX5_isRoom 2 = .ok (.lcmp, 1) := by decide +kernel
theorem dX5_isRoom_3 : decode cX5_isRoom 3 = .ok (.ifCond .lt 15, 3) := by decide +kernel
theorem dX5_isRoom_6 : decode cX5_isRoom 6 = .ok (.lload_n 0, 1) := by decide +kernel
theorem dX5_isRoom_7 : decode cX5_isRoom 7 = .ok (.ldc2_w 110, 3) := by decide +kernel
theorem dX5_isRoom_10 : decode cX5_isRoom 10 = .ok (.lcmp, 1) := by decide +kernel
theorem dX5_isRoom_11 : decode cX5_isRoom 11 = .ok (.ifCond .gt 7, 3) := by decide +kernel
theorem dX5_isRoom_14 : decode cX5_isRoom 14 = .ok (.iconst 1, 1) := by decide +kernel
theorem dX5_isRoom_15 : decode cX5_isRoom 15 = .ok (.goto 4, 3) := by decide +kernel
theorem dX5_isRoom_18 : decode cX5_isRoom 18 = .ok (.iconst 0, 1) := by decide +kernel
theorem dX5_isRoom_19 : decode cX5_isRoom 19 = .ok (.ireturn, 1) := by decide +kernel

theorem dX5_isInOrder_0 : decode cX5_isInOrder 0 = .ok (.lload_n 0, 1) := by decide +kernel
theorem dX5_isInOrder_1 : decode cX5_isInOrder 1 = .ok (.lload_n 2, 1) := by decide +kernel
theorem dX5_isInOrder_2 : decode cX5_isInOrder 2 = .ok (.lcmp, 1) := by decide +kernel
theorem dX5_isInOrder_3 : decode cX5_isInOrder 3 = .ok (.ifCond .gt 33, 3) := by decide +kernel
theorem dX5_isInOrder_6 : decode cX5_isInOrder 6 = .ok (.lload_n 2, 1) := by decide +kernel
theorem dX5_isInOrder_7 : decode cX5_isInOrder 7 = .ok (.lload 4, 2) := by decide +kernel
theorem dX5_isInOrder_9 : decode cX5_isInOrder 9 = .ok (.lcmp, 1) := by decide +kernel
theorem dX5_isInOrder_10 : decode cX5_isInOrder 10 = .ok (.ifCond .gt 26, 3) := by decide +kernel
theorem dX5_isInOrder_13 : decode cX5_isInOrder 13 = .ok (.lload_n 2, 1) := by decide +kernel
theorem dX5_isInOrder_14 : decode cX5_isInOrder 14 = .ok (.lload_n 0, 1) := by decide +kernel
theorem dX5_isInOrder_15 : decode cX5_isInOrder 15 = .ok (.lsub, 1) := by decide +kernel
theorem dX5_isInOrder_16 : decode cX5_isInOrder 16 = .ok (.invokestatic 242, 3) := by decide +kernel
theorem dX5_isInOrder_19 : decode cX5_isInOrder 19 = .ok (.ifCond .eq 17, 3) := by decide +kernel
theorem dX5_isInOrder_22 : decode cX5_isInOrder 22 = .ok (.lload 4, 2) := by decide +kernel
theorem dX5_isInOrder_24 : decode cX5_isInOrder 24 = .ok (.lload_n 2, 1) := by decide +kernel
theorem dX5_isInOrder_25 : decode cX5_isInOrder 25 = .ok (.lsub, 1) := by decide +kernel
theorem dX5_isInOrder_26 : decode cX5_isInOrder 26 = .ok (.invokestatic 242, 3) := by decide +kernel
theorem dX5_isInOrder_29 : decode cX5_isInOrder 29 = .ok (.ifCond .eq 7, 3) := by decide +kernel
theorem dX5_isInOrder_32 : decode cX5_isInOrder 32 = .ok (.iconst 1, 1) := by decide +kernel
theorem dX5_isInOrder_33 : decode cX5_isInOrder 33 = .ok (.goto 4, 3) := by decide +kernel
theorem dX5_isInOrder_36 : decode cX5_isInOrder 36 = .ok (.iconst 0, 1) := by decide +kernel
theorem dX5_isInOrder_37 : decode cX5_isInOrder 37 = .ok (.ireturn, 1) := by decide +kernel

theorem dX5_isSide_0 : decode cX5_isSide 0 = .ok (.iload_n 0, 1) := by decide +kernel
theorem dX5_isSide_1 : decode cX5_isSide 1 = .ok (.ifCond .eq 8, 3) := by decide +kernel
theorem dX5_isSide_4 : decode cX5_isSide 4 = .ok (.iload_n 0, 1) := by decide +kernel
theorem dX5_isSide_5 : decode cX5_isSide 5 = .ok (.iconst 1, 1) := by decide +kernel
theorem dX5_isSide_6 : decode cX5_isSide 6 = .ok (.if_icmp .ne 7, 3) := by decide +kernel
theorem dX5_isSide_9 : decode cX5_isSide 9 = .ok (.iconst 1, 1) := by decide +kernel
theorem dX5_isSide_10 : decode cX5_isSide 10 = .ok (.goto 4, 3) := by decide +kernel
theorem dX5_isSide_13 : decode cX5_isSide 13 = .ok (.iconst 0, 1) := by decide +kernel
theorem dX5_isSide_14 : decode cX5_isSide 14 = .ok (.ireturn, 1) := by decide +kernel

theorem dX5_canAskFor_0 : decode cX5_canAskFor 0 = .ok (.aload_n 0, 1) := by decide +kernel
theorem dX5_canAskFor_1 : decode cX5_canAskFor 1 = .ok (.getfield 19, 3) := by decide +kernel
theorem dX5_canAskFor_4 : decode cX5_canAskFor 4 = .ok (.iload_n 1, 1) := by decide +kernel
theorem dX5_canAskFor_5 : decode cX5_canAskFor 5 = .ok (.invokevirtual 105, 3) := by decide +kernel
theorem dX5_canAskFor_8 : decode cX5_canAskFor 8 = .ok (.ifCond .eq 32, 3) := by decide +kernel
theorem dX5_canAskFor_11 : decode cX5_canAskFor 11 = .ok (.iload_n 2, 1) := by decide +kernel
theorem dX5_canAskFor_12 : decode cX5_canAskFor 12 = .ok (.invokestatic 188, 3) := by decide +kernel
theorem dX5_canAskFor_15 : decode cX5_canAskFor 15 = .ok (.ifCond .eq 25, 3) := by decide +kernel
theorem dX5_canAskFor_18 : decode cX5_canAskFor 18 = .ok (.aload_n 0, 1) := by decide +kernel
theorem dX5_canAskFor_19 : decode cX5_canAskFor 19 = .ok (.getfield 10, 3) := by decide +kernel
theorem dX5_canAskFor_22 : decode cX5_canAskFor 22 = .ok (.iload_n 3, 1) := by decide +kernel
theorem dX5_canAskFor_23 : decode cX5_canAskFor 23 = .ok (.invokevirtual 44, 3) := by decide +kernel
theorem dX5_canAskFor_26 : decode cX5_canAskFor 26 = .ok (.ifCond .eq 14, 3) := by decide +kernel
theorem dX5_canAskFor_29 : decode cX5_canAskFor 29 = .ok (.lload 4, 2) := by decide +kernel
theorem dX5_canAskFor_31 : decode cX5_canAskFor 31 = .ok (.lconst 1, 1) := by decide +kernel
theorem dX5_canAskFor_32 : decode cX5_canAskFor 32 = .ok (.lcmp, 1) := by decide +kernel
theorem dX5_canAskFor_33 : decode cX5_canAskFor 33 = .ok (.ifCond .lt 7, 3) := by decide +kernel
theorem dX5_canAskFor_36 : decode cX5_canAskFor 36 = .ok (.iconst 1, 1) := by decide +kernel
theorem dX5_canAskFor_37 : decode cX5_canAskFor 37 = .ok (.goto 4, 3) := by decide +kernel
theorem dX5_canAskFor_40 : decode cX5_canAskFor 40 = .ok (.iconst 0, 1) := by decide +kernel
theorem dX5_canAskFor_41 : decode cX5_canAskFor 41 = .ok (.ireturn, 1) := by decide +kernel

theorem dX5_richestOther_0 : decode cX5_richestOther 0 = .ok (.iconst (-1), 1) := by decide +kernel
theorem dX5_richestOther_1 : decode cX5_richestOther 1 = .ok (.istore 4, 2) := by decide +kernel
theorem dX5_richestOther_3 : decode cX5_richestOther 3 = .ok (.lconst 0, 1) := by decide +kernel
theorem dX5_richestOther_4 : decode cX5_richestOther 4 = .ok (.lstore 5, 2) := by decide +kernel
theorem dX5_richestOther_6 : decode cX5_richestOther 6 = .ok (.iconst 0, 1) := by decide +kernel
theorem dX5_richestOther_7 : decode cX5_richestOther 7 = .ok (.istore 7, 2) := by decide +kernel
theorem dX5_richestOther_9 : decode cX5_richestOther 9 = .ok (.iload 7, 2) := by decide +kernel
theorem dX5_richestOther_11 : decode cX5_richestOther 11 = .ok (.bipush 6, 2) := by decide +kernel
theorem dX5_richestOther_13 : decode cX5_richestOther 13 = .ok (.if_icmp .ge 61, 3) := by decide +kernel
theorem dX5_richestOther_16 : decode cX5_richestOther 16 = .ok (.iload 7, 2) := by decide +kernel
theorem dX5_richestOther_18 : decode cX5_richestOther 18 = .ok (.iload_n 3, 1) := by decide +kernel
theorem dX5_richestOther_19 : decode cX5_richestOther 19 = .ok (.if_icmp .eq 49, 3) := by decide +kernel
theorem dX5_richestOther_22 : decode cX5_richestOther 22 = .ok (.aload_n 0, 1) := by decide +kernel
theorem dX5_richestOther_23 : decode cX5_richestOther 23 = .ok (.getfield 10, 3) := by decide +kernel
theorem dX5_richestOther_26 : decode cX5_richestOther 26 = .ok (.iload 7, 2) := by decide +kernel
theorem dX5_richestOther_28 : decode cX5_richestOther 28 = .ok (.invokevirtual 44, 3) := by decide +kernel
theorem dX5_richestOther_31 : decode cX5_richestOther 31 = .ok (.ifCond .eq 37, 3) := by decide +kernel
theorem dX5_richestOther_34 : decode cX5_richestOther 34 = .ok (.aload_n 0, 1) := by decide +kernel
theorem dX5_richestOther_35 : decode cX5_richestOther 35 = .ok (.getfield 19, 3) := by decide +kernel
theorem dX5_richestOther_38 : decode cX5_richestOther 38 = .ok (.iload_n 1, 1) := by decide +kernel
theorem dX5_richestOther_39 : decode cX5_richestOther 39 = .ok (.iload_n 2, 1) := by decide +kernel
theorem dX5_richestOther_40 : decode cX5_richestOther 40 = .ok (.iload 7, 2) := by decide +kernel
theorem dX5_richestOther_42 : decode cX5_richestOther 42 = .ok (.invokevirtual 129, 3) := by decide +kernel
theorem dX5_richestOther_45 : decode cX5_richestOther 45 = .ok (.lload 5, 2) := by decide +kernel
theorem dX5_richestOther_47 : decode cX5_richestOther 47 = .ok (.lcmp, 1) := by decide +kernel
theorem dX5_richestOther_48 : decode cX5_richestOther 48 = .ok (.ifCond .le 20, 3) := by decide +kernel
theorem dX5_richestOther_51 : decode cX5_richestOther 51 = .ok (.iload 7, 2) := by decide +kernel
theorem dX5_richestOther_53 : decode cX5_richestOther 53 = .ok (.istore 4, 2) := by decide +kernel
theorem dX5_richestOther_55 : decode cX5_richestOther 55 = .ok (.aload_n 0, 1) := by decide +kernel
theorem dX5_richestOther_56 : decode cX5_richestOther 56 = .ok (.getfield 19, 3) := by decide +kernel
theorem dX5_richestOther_59 : decode cX5_richestOther 59 = .ok (.iload_n 1, 1) := by decide +kernel
theorem dX5_richestOther_60 : decode cX5_richestOther 60 = .ok (.iload_n 2, 1) := by decide +kernel
theorem dX5_richestOther_61 : decode cX5_richestOther 61 = .ok (.iload 7, 2) := by decide +kernel
theorem dX5_richestOther_63 : decode cX5_richestOther 63 = .ok (.invokevirtual 129, 3) := by decide +kernel
theorem dX5_richestOther_66 : decode cX5_richestOther 66 = .ok (.lstore 5, 2) := by decide +kernel
theorem dX5_richestOther_68 : decode cX5_richestOther 68 = .ok (.iinc 7 1, 3) := by decide +kernel
theorem dX5_richestOther_71 : decode cX5_richestOther 71 = .ok (.goto (-62), 3) := by decide +kernel
theorem dX5_richestOther_74 : decode cX5_richestOther 74 = .ok (.iload 4, 2) := by decide +kernel
theorem dX5_richestOther_76 : decode cX5_richestOther 76 = .ok (.ireturn, 1) := by decide +kernel

theorem dX5_send_0 : decode cX5_send 0 = .ok (.aload_n 0, 1) := by decide +kernel
theorem dX5_send_1 : decode cX5_send 1 = .ok (.getfield 26, 3) := by decide +kernel
theorem dX5_send_4 : decode cX5_send 4 = .ok (.getfield 241, 3) := by decide +kernel
theorem dX5_send_7 : decode cX5_send 7 = .ok (.sipush 200, 3) := by decide +kernel
theorem dX5_send_10 : decode cX5_send 10 = .ok (.if_icmp .lt 5, 3) := by decide +kernel
theorem dX5_send_13 : decode cX5_send 13 = .ok (.iconst 0, 1) := by decide +kernel
theorem dX5_send_14 : decode cX5_send 14 = .ok (.ireturn, 1) := by decide +kernel
theorem dX5_send_15 : decode cX5_send 15 = .ok (.aload_n 0, 1) := by decide +kernel
theorem dX5_send_16 : decode cX5_send 16 = .ok (.getfield 19, 3) := by decide +kernel
theorem dX5_send_19 : decode cX5_send 19 = .ok (.iload_n 1, 1) := by decide +kernel
theorem dX5_send_20 : decode cX5_send 20 = .ok (.iload_n 2, 1) := by decide +kernel
theorem dX5_send_21 : decode cX5_send 21 = .ok (.iload_n 3, 1) := by decide +kernel
theorem dX5_send_22 : decode cX5_send 22 = .ok (.lload 5, 2) := by decide +kernel
theorem dX5_send_24 : decode cX5_send 24 = .ok (.lneg, 1) := by decide +kernel
theorem dX5_send_25 : decode cX5_send 25 = .ok (.invokevirtual 246, 3) := by decide +kernel
theorem dX5_send_28 : decode cX5_send 28 = .ok (.aload_n 0, 1) := by decide +kernel
theorem dX5_send_29 : decode cX5_send 29 = .ok (.getfield 26, 3) := by decide +kernel
theorem dX5_send_32 : decode cX5_send 32 = .ok (.iload_n 1, 1) := by decide +kernel
theorem dX5_send_33 : decode cX5_send 33 = .ok (.iload_n 2, 1) := by decide +kernel
theorem dX5_send_34 : decode cX5_send 34 = .ok (.iload_n 3, 1) := by decide +kernel
theorem dX5_send_35 : decode cX5_send 35 = .ok (.iload 4, 2) := by decide +kernel
theorem dX5_send_37 : decode cX5_send 37 = .ok (.lload 5, 2) := by decide +kernel
theorem dX5_send_39 : decode cX5_send 39 = .ok (.invokevirtual 249, 3) := by decide +kernel
theorem dX5_send_42 : decode cX5_send 42 = .ok (.ireturn, 1) := by decide +kernel

theorem dX5_goFirst_0 : decode cX5_goFirst 0 = .ok (.aload_n 0, 1) := by decide +kernel
theorem dX5_goFirst_1 : decode cX5_goFirst 1 = .ok (.getfield 33, 3) := by decide +kernel
theorem dX5_goFirst_4 : decode cX5_goFirst 4 = .ok (.getfield 224, 3) := by decide +kernel
theorem dX5_goFirst_7 : decode cX5_goFirst 7 = .ok (.iload_n 1, 1) := by decide +kernel
theorem dX5_goFirst_8 : decode cX5_goFirst 8 = .ok (.iaload, 1) := by decide +kernel
theorem dX5_goFirst_9 : decode cX5_goFirst 9 = .ok (.ifCond .eq 36, 3) := by decide +kernel
theorem dX5_goFirst_12 : decode cX5_goFirst 12 = .ok (.aload_n 0, 1) := by decide +kernel
theorem dX5_goFirst_13 : decode cX5_goFirst 13 = .ok (.getfield 19, 3) := by decide +kernel
theorem dX5_goFirst_16 : decode cX5_goFirst 16 = .ok (.aload_n 0, 1) := by decide +kernel
theorem dX5_goFirst_17 : decode cX5_goFirst 17 = .ok (.getfield 33, 3) := by decide +kernel
theorem dX5_goFirst_20 : decode cX5_goFirst 20 = .ok (.getfield 254, 3) := by decide +kernel
theorem dX5_goFirst_23 : decode cX5_goFirst 23 = .ok (.iload_n 1, 1) := by decide +kernel
theorem dX5_goFirst_24 : decode cX5_goFirst 24 = .ok (.aaload, 1) := by decide +kernel
theorem dX5_goFirst_25 : decode cX5_goFirst 25 = .ok (.iconst 0, 1) := by decide +kernel
theorem dX5_goFirst_26 : decode cX5_goFirst 26 = .ok (.iaload, 1) := by decide +kernel
theorem dX5_goFirst_27 : decode cX5_goFirst 27 = .ok (.iload_n 1, 1) := by decide +kernel
theorem dX5_goFirst_28 : decode cX5_goFirst 28 = .ok (.aload_n 0, 1) := by decide +kernel
theorem dX5_goFirst_29 : decode cX5_goFirst 29 = .ok (.getfield 33, 3) := by decide +kernel
theorem dX5_goFirst_32 : decode cX5_goFirst 32 = .ok (.getfield 229, 3) := by decide +kernel
theorem dX5_goFirst_35 : decode cX5_goFirst 35 = .ok (.iload_n 1, 1) := by decide +kernel
theorem dX5_goFirst_36 : decode cX5_goFirst 36 = .ok (.aaload, 1) := by decide +kernel
theorem dX5_goFirst_37 : decode cX5_goFirst 37 = .ok (.iconst 0, 1) := by decide +kernel
theorem dX5_goFirst_38 : decode cX5_goFirst 38 = .ok (.laload, 1) := by decide +kernel
theorem dX5_goFirst_39 : decode cX5_goFirst 39 = .ok (.invokevirtual 112, 3) := by decide +kernel
theorem dX5_goFirst_42 : decode cX5_goFirst 42 = .ok (.ifCond .ne 5, 3) := by decide +kernel
theorem dX5_goFirst_45 : decode cX5_goFirst 45 = .ok (.iconst 0, 1) := by decide +kernel
theorem dX5_goFirst_46 : decode cX5_goFirst 46 = .ok (.ireturn, 1) := by decide +kernel
theorem dX5_goFirst_47 : decode cX5_goFirst 47 = .ok (.aload_n 0, 1) := by decide +kernel
theorem dX5_goFirst_48 : decode cX5_goFirst 48 = .ok (.getfield 33, 3) := by decide +kernel
theorem dX5_goFirst_51 : decode cX5_goFirst 51 = .ok (.iload_n 1, 1) := by decide +kernel
theorem dX5_goFirst_52 : decode cX5_goFirst 52 = .ok (.invokevirtual 257, 3) := by decide +kernel
theorem dX5_goFirst_55 : decode cX5_goFirst 55 = .ok (.iconst 1, 1) := by decide +kernel
theorem dX5_goFirst_56 : decode cX5_goFirst 56 = .ok (.ireturn, 1) := by decide +kernel

theorem dX5_receive_0 : decode cX5_receive 0 = .ok (.lload 4, 2) := by decide +kernel
theorem dX5_receive_2 : decode cX5_receive 2 = .ok (.lconst 0, 1) := by decide +kernel
theorem dX5_receive_3 : decode cX5_receive 3 = .ok (.lcmp, 1) := by decide +kernel
theorem dX5_receive_4 : decode cX5_receive 4 = .ok (.ifCond .gt 4, 3) := by decide +kernel
theorem dX5_receive_7 : decode cX5_receive 7 = .ok (.return_, 1) := by decide +kernel
theorem dX5_receive_8 : decode cX5_receive 8 = .ok (.aload_n 0, 1) := by decide +kernel
theorem dX5_receive_9 : decode cX5_receive 9 = .ok (.getfield 19, 3) := by decide +kernel
theorem dX5_receive_12 : decode cX5_receive 12 = .ok (.iload_n 1, 1) := by decide +kernel
theorem dX5_receive_13 : decode cX5_receive 13 = .ok (.iload_n 2, 1) := by decide +kernel
theorem dX5_receive_14 : decode cX5_receive 14 = .ok (.iload_n 3, 1) := by decide +kernel
theorem dX5_receive_15 : decode cX5_receive 15 = .ok (.lload 4, 2) := by decide +kernel
theorem dX5_receive_17 : decode cX5_receive 17 = .ok (.invokevirtual 246, 3) := by decide +kernel
theorem dX5_receive_20 : decode cX5_receive 20 = .ok (.iconst 0, 1) := by decide +kernel
theorem dX5_receive_21 : decode cX5_receive 21 = .ok (.istore 6, 2) := by decide +kernel
theorem dX5_receive_23 : decode cX5_receive 23 = .ok (.iload 6, 2) := by decide +kernel
theorem dX5_receive_25 : decode cX5_receive 25 = .ok (.bipush 8, 2) := by decide +kernel
theorem dX5_receive_27 : decode cX5_receive 27 = .ok (.if_icmp .ge 27, 3) := by decide +kernel
theorem dX5_receive_30 : decode cX5_receive 30 = .ok (.aload_n 0, 1) := by decide +kernel
theorem dX5_receive_31 : decode cX5_receive 31 = .ok (.iload_n 3, 1) := by decide +kernel
theorem dX5_receive_32 : decode cX5_receive 32 = .ok (.invokevirtual 251, 3) := by decide +kernel
theorem dX5_receive_35 : decode cX5_receive 35 = .ok (.ifCond .eq 19, 3) := by decide +kernel
theorem dX5_receive_38 : decode cX5_receive 38 = .ok (.aload_n 0, 1) := by decide +kernel
theorem dX5_receive_39 : decode cX5_receive 39 = .ok (.dup, 1) := by decide +kernel
theorem dX5_receive_40 : decode cX5_receive 40 = .ok (.getfield 116, 3) := by decide +kernel
theorem dX5_receive_43 : decode cX5_receive 43 = .ok (.iconst 1, 1) := by decide +kernel
theorem dX5_receive_44 : decode cX5_receive 44 = .ok (.iadd, 1) := by decide +kernel
theorem dX5_receive_45 : decode cX5_receive 45 = .ok (.putfield 116, 3) := by decide +kernel
theorem dX5_receive_48 : decode cX5_receive 48 = .ok (.iinc 6 1, 3) := by decide +kernel
theorem dX5_receive_51 : decode cX5_receive 51 = .ok (.goto (-28), 3) := by decide +kernel
theorem dX5_receive_54 : decode cX5_receive 54 = .ok (.return_, 1) := by decide +kernel

theorem dX5_useOwnWeights_0 : decode cX5_useOwnWeights 0 = .ok (.iconst 0, 1) := by decide +kernel
theorem dX5_useOwnWeights_1 : decode cX5_useOwnWeights 1 = .ok (.istore_n 1, 1) := by decide +kernel
theorem dX5_useOwnWeights_2 : decode cX5_useOwnWeights 2 = .ok (.iload_n 1, 1) := by decide +kernel
theorem dX5_useOwnWeights_3 : decode cX5_useOwnWeights 3 = .ok (.bipush 6, 2) := by decide +kernel
theorem dX5_useOwnWeights_5 : decode cX5_useOwnWeights 5 = .ok (.if_icmp .ge 42, 3) := by decide +kernel
theorem dX5_useOwnWeights_8 : decode cX5_useOwnWeights 8 = .ok (.aload_n 0, 1) := by decide +kernel
theorem dX5_useOwnWeights_9 : decode cX5_useOwnWeights 9 = .ok (.getfield 40, 3) := by decide +kernel
theorem dX5_useOwnWeights_12 : decode cX5_useOwnWeights 12 = .ok (.getfield 269, 3) := by decide +kernel
theorem dX5_useOwnWeights_15 : decode cX5_useOwnWeights 15 = .ok (.iload_n 1, 1) := by decide +kernel
theorem dX5_useOwnWeights_16 : decode cX5_useOwnWeights 16 = .ok (.aload_n 0, 1) := by decide +kernel
theorem dX5_useOwnWeights_17 : decode cX5_useOwnWeights 17 = .ok (.getfield 10, 3) := by decide +kernel
theorem dX5_useOwnWeights_20 : decode cX5_useOwnWeights 20 = .ok (.iload_n 1, 1) := by decide +kernel
theorem dX5_useOwnWeights_21 : decode cX5_useOwnWeights 21 = .ok (.invokevirtual 44, 3) := by decide +kernel
theorem dX5_useOwnWeights_24 : decode cX5_useOwnWeights 24 = .ok (.ifCond .eq 15, 3) := by decide +kernel
theorem dX5_useOwnWeights_27 : decode cX5_useOwnWeights 27 = .ok (.aload_n 0, 1) := by decide +kernel
theorem dX5_useOwnWeights_28 : decode cX5_useOwnWeights 28 = .ok (.getfield 10, 3) := by decide +kernel
theorem dX5_useOwnWeights_31 : decode cX5_useOwnWeights 31 = .ok (.getfield 50, 3) := by decide +kernel
theorem dX5_useOwnWeights_34 : decode cX5_useOwnWeights 34 = .ok (.iload_n 1, 1) := by decide +kernel
theorem dX5_useOwnWeights_35 : decode cX5_useOwnWeights 35 = .ok (.laload, 1) := by decide +kernel
theorem dX5_useOwnWeights_36 : decode cX5_useOwnWeights 36 = .ok (.goto 4, 3) := by decide +kernel
theorem dX5_useOwnWeights_39 : decode cX5_useOwnWeights 39 = .ok (.lconst 0, 1) := by decide +kernel
theorem dX5_useOwnWeights_40 : decode cX5_useOwnWeights 40 = .ok (.lastore, 1) := by decide +kernel
theorem dX5_useOwnWeights_41 : decode cX5_useOwnWeights 41 = .ok (.iinc 1 1, 3) := by decide +kernel
theorem dX5_useOwnWeights_44 : decode cX5_useOwnWeights 44 = .ok (.goto (-42), 3) := by decide +kernel
theorem dX5_useOwnWeights_47 : decode cX5_useOwnWeights 47 = .ok (.return_, 1) := by decide +kernel

theorem dX5_useEqualWeights_0 : decode cX5_useEqualWeights 0 = .ok (.iconst 0, 1) := by decide +kernel
theorem dX5_useEqualWeights_1 : decode cX5_useEqualWeights 1 = .ok (.istore_n 1, 1) := by decide +kernel
theorem dX5_useEqualWeights_2 : decode cX5_useEqualWeights 2 = .ok (.iload_n 1, 1) := by decide +kernel
theorem dX5_useEqualWeights_3 : decode cX5_useEqualWeights 3 = .ok (.bipush 6, 2) := by decide +kernel
theorem dX5_useEqualWeights_5 : decode cX5_useEqualWeights 5 = .ok (.if_icmp .ge 34, 3) := by decide +kernel
theorem dX5_useEqualWeights_8 : decode cX5_useEqualWeights 8 = .ok (.aload_n 0, 1) := by decide +kernel
theorem dX5_useEqualWeights_9 : decode cX5_useEqualWeights 9 = .ok (.getfield 40, 3) := by decide +kernel
theorem dX5_useEqualWeights_12 : decode cX5_useEqualWeights 12 = .ok (.getfield 269, 3) := by decide +kernel
theorem dX5_useEqualWeights_15 : decode cX5_useEqualWeights 15 = .ok (.iload_n 1, 1) := by decide +kernel
theorem dX5_useEqualWeights_16 : decode cX5_useEqualWeights 16 = .ok (.aload_n 0, 1) := by decide +kernel
theorem dX5_useEqualWeights_17 : decode cX5_useEqualWeights 17 = .ok (.getfield 10, 3) := by decide +kernel
theorem dX5_useEqualWeights_20 : decode cX5_useEqualWeights 20 = .ok (.iload_n 1, 1) := by decide +kernel
theorem dX5_useEqualWeights_21 : decode cX5_useEqualWeights 21 = .ok (.invokevirtual 44, 3) := by decide +kernel
theorem dX5_useEqualWeights_24 : decode cX5_useEqualWeights 24 = .ok (.ifCond .eq 7, 3) := by decide +kernel
theorem dX5_useEqualWeights_27 : decode cX5_useEqualWeights 27 = .ok (.lconst 1, 1) := by decide +kernel
theorem dX5_useEqualWeights_28 : decode cX5_useEqualWeights 28 = .ok (.goto 4, 3) := by decide +kernel
theorem dX5_useEqualWeights_31 : decode cX5_useEqualWeights 31 = .ok (.lconst 0, 1) := by decide +kernel
theorem dX5_useEqualWeights_32 : decode cX5_useEqualWeights 32 = .ok (.lastore, 1) := by decide +kernel
theorem dX5_useEqualWeights_33 : decode cX5_useEqualWeights 33 = .ok (.iinc 1 1, 3) := by decide +kernel
theorem dX5_useEqualWeights_36 : decode cX5_useEqualWeights 36 = .ok (.goto (-34), 3) := by decide +kernel
theorem dX5_useEqualWeights_39 : decode cX5_useEqualWeights 39 = .ok (.return_, 1) := by decide +kernel

theorem dX5_sharesOfThose_0 : decode cX5_sharesOfThose 0 = .ok (.lconst 0, 1) := by decide +kernel
theorem dX5_sharesOfThose_1 : decode cX5_sharesOfThose 1 = .ok (.lstore 4, 2) := by decide +kernel
theorem dX5_sharesOfThose_3 : decode cX5_sharesOfThose 3 = .ok (.iconst 0, 1) := by decide +kernel
theorem dX5_sharesOfThose_4 : decode cX5_sharesOfThose 4 = .ok (.istore 6, 2) := by decide +kernel
theorem dX5_sharesOfThose_6 : decode cX5_sharesOfThose 6 = .ok (.iload 6, 2) := by decide +kernel
theorem dX5_sharesOfThose_8 : decode cX5_sharesOfThose 8 = .ok (.bipush 6, 2) := by decide +kernel
theorem dX5_sharesOfThose_10 : decode cX5_sharesOfThose 10 = .ok (.if_icmp .ge 38, 3) := by decide +kernel
theorem dX5_sharesOfThose_13 : decode cX5_sharesOfThose 13 = .ok (.aload_n 0, 1) := by decide +kernel
theorem dX5_sharesOfThose_14 : decode cX5_sharesOfThose 14 = .ok (.getfield 10, 3) := by decide +kernel
theorem dX5_sharesOfThose_17 : decode cX5_sharesOfThose 17 = .ok (.iload 6, 2) := by decide +kernel
theorem dX5_sharesOfThose_19 : decode cX5_sharesOfThose 19 = .ok (.invokevirtual 44, 3) := by decide +kernel
theorem dX5_sharesOfThose_22 : decode cX5_sharesOfThose 22 = .ok (.iload_n 3, 1) := by decide +kernel
theorem dX5_sharesOfThose_23 : decode cX5_sharesOfThose 23 = .ok (.if_icmp .ne 19, 3) := by decide +kernel
theorem dX5_sharesOfThose_26 : decode cX5_sharesOfThose 26 = .ok (.lload 4, 2) := by decide +kernel
theorem dX5_sharesOfThose_28 : decode cX5_sharesOfThose 28 = .ok (.aload_n 0, 1) := by decide +kernel
theorem dX5_sharesOfThose_29 : decode cX5_sharesOfThose 29 = .ok (.getfield 19, 3) := by decide +kernel
theorem dX5_sharesOfThose_32 : decode cX5_sharesOfThose 32 = .ok (.iload_n 1, 1) := by decide +kernel
theorem dX5_sharesOfThose_33 : decode cX5_sharesOfThose 33 = .ok (.iload_n 2, 1) := by decide +kernel
theorem dX5_sharesOfThose_34 : decode cX5_sharesOfThose 34 = .ok (.iload 6, 2) := by decide +kernel
theorem dX5_sharesOfThose_36 : decode cX5_sharesOfThose 36 = .ok (.invokevirtual 129, 3) := by decide +kernel
theorem dX5_sharesOfThose_39 : decode cX5_sharesOfThose 39 = .ok (.ladd, 1) := by decide +kernel
theorem dX5_sharesOfThose_40 : decode cX5_sharesOfThose 40 = .ok (.lstore 4, 2) := by decide +kernel
theorem dX5_sharesOfThose_42 : decode cX5_sharesOfThose 42 = .ok (.iinc 6 1, 3) := by decide +kernel
theorem dX5_sharesOfThose_45 : decode cX5_sharesOfThose 45 = .ok (.goto (-39), 3) := by decide +kernel
theorem dX5_sharesOfThose_48 : decode cX5_sharesOfThose 48 = .ok (.lload 4, 2) := by decide +kernel
theorem dX5_sharesOfThose_50 : decode cX5_sharesOfThose 50 = .ok (.lreturn, 1) := by decide +kernel

theorem dX5_isStuck_0 : decode cX5_isStuck 0 = .ok (.aload_n 0, 1) := by decide +kernel
theorem dX5_isStuck_1 : decode cX5_isStuck 1 = .ok (.getfield 26, 3) := by decide +kernel
theorem dX5_isStuck_4 : decode cX5_isStuck 4 = .ok (.getfield 148, 3) := by decide +kernel
theorem dX5_isStuck_7 : decode cX5_isStuck 7 = .ok (.iload_n 1, 1) := by decide +kernel
theorem dX5_isStuck_8 : decode cX5_isStuck 8 = .ok (.iaload, 1) := by decide +kernel
theorem dX5_isStuck_9 : decode cX5_isStuck 9 = .ok (.iconst 2, 1) := by decide +kernel
theorem dX5_isStuck_10 : decode cX5_isStuck 10 = .ok (.if_icmp .eq 22, 3) := by decide +kernel
theorem dX5_isStuck_13 : decode cX5_isStuck 13 = .ok (.aload_n 0, 1) := by decide +kernel
theorem dX5_isStuck_14 : decode cX5_isStuck 14 = .ok (.getfield 10, 3) := by decide +kernel
theorem dX5_isStuck_17 : decode cX5_isStuck 17 = .ok (.aload_n 0, 1) := by decide +kernel
theorem dX5_isStuck_18 : decode cX5_isStuck 18 = .ok (.getfield 26, 3) := by decide +kernel
theorem dX5_isStuck_21 : decode cX5_isStuck 21 = .ok (.getfield 161, 3) := by decide +kernel
theorem dX5_isStuck_24 : decode cX5_isStuck 24 = .ok (.iload_n 1, 1) := by decide +kernel
theorem dX5_isStuck_25 : decode cX5_isStuck 25 = .ok (.iaload, 1) := by decide +kernel
theorem dX5_isStuck_26 : decode cX5_isStuck 26 = .ok (.invokevirtual 44, 3) := by decide +kernel
theorem dX5_isStuck_29 : decode cX5_isStuck 29 = .ok (.ifCond .ne 7, 3) := by decide +kernel
theorem dX5_isStuck_32 : decode cX5_isStuck 32 = .ok (.iconst 1, 1) := by decide +kernel
theorem dX5_isStuck_33 : decode cX5_isStuck 33 = .ok (.goto 4, 3) := by decide +kernel
theorem dX5_isStuck_36 : decode cX5_isStuck 36 = .ok (.iconst 0, 1) := by decide +kernel
theorem dX5_isStuck_37 : decode cX5_isStuck 37 = .ok (.ireturn, 1) := by decide +kernel

theorem dX5_heldByRows_0 : decode cX5_heldByRows 0 = .ok (.lconst 0, 1) := by decide +kernel
theorem dX5_heldByRows_1 : decode cX5_heldByRows 1 = .ok (.lstore 4, 2) := by decide +kernel
theorem dX5_heldByRows_3 : decode cX5_heldByRows 3 = .ok (.iconst 1, 1) := by decide +kernel
theorem dX5_heldByRows_4 : decode cX5_heldByRows 4 = .ok (.istore 6, 2) := by decide +kernel
theorem dX5_heldByRows_6 : decode cX5_heldByRows 6 = .ok (.iload 6, 2) := by decide +kernel
theorem dX5_heldByRows_8 : decode cX5_heldByRows 8 = .ok (.aload_n 0, 1) := by decide +kernel
theorem dX5_heldByRows_9 : decode cX5_heldByRows 9 = .ok (.getfield 26, 3) := by decide +kernel
theorem dX5_heldByRows_12 : decode cX5_heldByRows 12 = .ok (.getfield 241, 3) := by decide +kernel
theorem dX5_heldByRows_15 : decode cX5_heldByRows 15 = .ok (.if_icmp .gt 48, 3) := by decide +kernel
theorem dX5_heldByRows_18 : decode cX5_heldByRows 18 = .ok (.aload_n 0, 1) := by decide +kernel
theorem dX5_heldByRows_19 : decode cX5_heldByRows 19 = .ok (.getfield 26, 3) := by decide +kernel
theorem dX5_heldByRows_22 : decode cX5_heldByRows 22 = .ok (.iload 6, 2) := by decide +kernel
theorem dX5_heldByRows_24 : decode cX5_heldByRows 24 = .ok (.iload_n 1, 1) := by decide +kernel
theorem dX5_heldByRows_25 : decode cX5_heldByRows 25 = .ok (.iload_n 2, 1) := by decide +kernel
theorem dX5_heldByRows_26 : decode cX5_heldByRows 26 = .ok (.invokevirtual 270, 3) := by decide +kernel
theorem dX5_heldByRows_29 : decode cX5_heldByRows 29 = .ok (.ifCond .eq 28, 3) := by decide +kernel
theorem dX5_heldByRows_32 : decode cX5_heldByRows 32 = .ok (.aload_n 0, 1) := by decide +kernel
theorem dX5_heldByRows_33 : decode cX5_heldByRows 33 = .ok (.iload 6, 2) := by decide +kernel
theorem dX5_heldByRows_35 : decode cX5_heldByRows 35 = .ok (.invokevirtual 274, 3) := by decide +kernel
theorem dX5_heldByRows_38 : decode cX5_heldByRows 38 = .ok (.iload_n 3, 1) := by decide +kernel
theorem dX5_heldByRows_39 : decode cX5_heldByRows 39 = .ok (.if_icmp .ne 18, 3) := by decide +kernel
theorem dX5_heldByRows_42 : decode cX5_heldByRows 42 = .ok (.lload 4, 2) := by decide +kernel
theorem dX5_heldByRows_44 : decode cX5_heldByRows 44 = .ok (.aload_n 0, 1) := by decide +kernel
theorem dX5_heldByRows_45 : decode cX5_heldByRows 45 = .ok (.getfield 26, 3) := by decide +kernel
theorem dX5_heldByRows_48 : decode cX5_heldByRows 48 = .ok (.getfield 277, 3) := by decide +kernel
theorem dX5_heldByRows_51 : decode cX5_heldByRows 51 = .ok (.iload 6, 2) := by decide +kernel
theorem dX5_heldByRows_53 : decode cX5_heldByRows 53 = .ok (.laload, 1) := by decide +kernel
theorem dX5_heldByRows_54 : decode cX5_heldByRows 54 = .ok (.ladd, 1) := by decide +kernel
theorem dX5_heldByRows_55 : decode cX5_heldByRows 55 = .ok (.lstore 4, 2) := by decide +kernel
theorem dX5_heldByRows_57 : decode cX5_heldByRows 57 = .ok (.iinc 6 1, 3) := by decide +kernel
theorem dX5_heldByRows_60 : decode cX5_heldByRows 60 = .ok (.goto (-54), 3) := by decide +kernel
theorem dX5_heldByRows_63 : decode cX5_heldByRows 63 = .ok (.lload 4, 2) := by decide +kernel
theorem dX5_heldByRows_65 : decode cX5_heldByRows 65 = .ok (.lreturn, 1) := by decide +kernel

set_option maxHeartbeats 4000000 in
set_option maxRecDepth 100000 in
theorem kX5_isRoom (l : Launch) (dC : Nat → ClassId) (dI : Nat → Nat → Nat) (ca : Nat → ClassId) (ad : Nat → Nat) (S : sSt) (dd : Int64) : ct_I l yX5_isRoom (Cond.code yX5_isRoom cX5_isRoom 2 (some .boolean) :: wa_T) ({ frames := 0, cells := 0, slots := 0, locals := 0 } : Room) (dC, dI) vwCl (tyl ca) (wc ca ad) S [.long dd] (fun r S2 => r = bI (rmOk dd) ∧ S2 = S) := by
  refine ct_ofI (by decide) (Nat.le_of_ble_eq_true rfl) ?_
  intro p e s m below meth c A ls hx hb hr hml hts hown hlocks hK hA hw hl
  have hl : lv_has ls 2 [(0, .long dd)] := hl
  refine lv_lload_n hx hb dX5_isRoom_0 rfl (lv_at hl 0 rfl) ?_
  refine lv_lconst (v := 0) hx hb dX5_isRoom_1 (by decide) ?_
  refine lc_lt (tgt := 18) hx hb dX5_isRoom_2 dX5_isRoom_3 (by decide) (fun c_1 => ?_) (fun c_1 => ?_)
  · skip
    refine lv_iconst (v := nI 0) hx hb dX5_isRoom_18 (by decide) ?_
    exact ct_zret (S := S) (v := nI 0) hx hb hr hlocks hK (by first | decide | exact nb_z _) hw (⟨by simp only [bI, rmOk, c_1, decide_true, decide_false, Bool.not_true, Bool.not_false, Bool.true_and, Bool.and_true, Bool.false_and, Bool.and_false, Bool.or_true, Bool.true_or, Bool.or_false, Bool.false_or, Bool.false_eq_true, Bool.true_eq_false, if_true, if_false, ↓reduceIte], rfl⟩) dX5_isRoom_19
  · skip
    refine lv_lload_n hx hb dX5_isRoom_6 rfl (lv_at hl 0 rfl) ?_
    refine lv_ldc2 hx hb hown (hts _ wd_213) dX5_isRoom_7 ?_
    refine lc_gt (tgt := 18) hx hb dX5_isRoom_10 dX5_isRoom_11 (by decide) (fun c_2 => ?_) (fun c_2 => ?_)
    · skip
      refine lv_iconst (v := nI 0) hx hb dX5_isRoom_18 (by decide) ?_
      exact ct_zret (S := S) (v := nI 0) hx hb hr hlocks hK (by first | decide | exact nb_z _) hw (⟨by simp only [bI, rmOk, c_1, c_2, decide_true, decide_false, Bool.not_true, Bool.not_false, Bool.true_and, Bool.and_true, Bool.false_and, Bool.and_false, Bool.or_true, Bool.true_or, Bool.or_false, Bool.false_or, Bool.false_eq_true, Bool.true_eq_false, if_true, if_false, ↓reduceIte], rfl⟩) dX5_isRoom_19
    · skip
      refine lv_iconst (v := nI 1) hx hb dX5_isRoom_14 (by decide) ?_
      refine lv_goto (tgt := 19) hx hb dX5_isRoom_15 (by decide) ?_
      exact ct_zret (S := S) (v := nI 1) hx hb hr hlocks hK (by first | decide | exact nb_z _) hw (⟨by simp only [bI, rmOk, c_1, c_2, decide_true, decide_false, Bool.not_true, Bool.not_false, Bool.true_and, Bool.and_true, Bool.false_and, Bool.and_false, Bool.or_true, Bool.true_or, Bool.or_false, Bool.false_or, Bool.false_eq_true, Bool.true_eq_false, if_true, if_false, ↓reduceIte], rfl⟩) dX5_isRoom_19

set_option maxHeartbeats 4000000 in
set_option maxRecDepth 100000 in
theorem kX5_isInOrder (l : Launch) (dC : Nat → ClassId) (dI : Nat → Nat → Nat) (ca : Nat → ClassId) (ad : Nat → Nat) (S : sSt) (fl : Int64) (va : Int64) (ce : Int64) : ct_I l yX5_isInOrder (Cond.code yX5_isInOrder cX5_isInOrder 6 (some .boolean) :: wa_T) ({ frames := 1, cells := 0, slots := 0, locals := 21 } : Room) (dC, dI) vwCl (tyl ca) (wc ca ad) S [.long fl, .long va, .long ce] (fun r S2 => r = bI (ordOk fl va ce) ∧ S2 = S) := by
  refine ct_ofI (by decide) (Nat.le_of_ble_eq_true rfl) ?_
  intro p e s m below meth c A ls hx hb hr hml hts hown hlocks hK hA hw hl
  have hl : lv_has ls 6 [(0, .long fl), (2, .long va), (4, .long ce)] := hl
  refine lv_lload_n hx hb dX5_isInOrder_0 rfl (lv_at hl 0 rfl) ?_
  refine lv_lload_n hx hb dX5_isInOrder_1 rfl (lv_at hl 1 rfl) ?_
  refine lc_gt (tgt := 36) hx hb dX5_isInOrder_2 dX5_isInOrder_3 (by decide) (fun c_1 => ?_) (fun c_1 => ?_)
  · skip
    refine lv_iconst (v := nI 0) hx hb dX5_isInOrder_36 (by decide) ?_
    exact ct_zret (S := S) (v := nI 0) hx hb hr hlocks hK (by first | decide | exact nb_z _) hw (⟨by simp only [bI, ordOk, c_1, decide_true, decide_false, Bool.not_true, Bool.not_false, Bool.true_and, Bool.and_true, Bool.false_and, Bool.and_false, Bool.or_true, Bool.true_or, Bool.or_false, Bool.false_or, Bool.false_eq_true, Bool.true_eq_false, if_true, if_false, ↓reduceIte], rfl⟩) dX5_isInOrder_37
  · skip
    refine lv_lload_n hx hb dX5_isInOrder_6 rfl (lv_at hl 1 rfl) ?_
    refine lv_lload hx hb dX5_isInOrder_7 (lv_at hl 2 rfl) ?_
    refine lc_gt (tgt := 36) hx hb dX5_isInOrder_9 dX5_isInOrder_10 (by decide) (fun c_2 => ?_) (fun c_2 => ?_)
    · skip
      refine lv_iconst (v := nI 0) hx hb dX5_isInOrder_36 (by decide) ?_
      exact ct_zret (S := S) (v := nI 0) hx hb hr hlocks hK (by first | decide | exact nb_z _) hw (⟨by simp only [bI, ordOk, c_1, c_2, decide_true, decide_false, Bool.not_true, Bool.not_false, Bool.true_and, Bool.and_true, Bool.false_and, Bool.and_false, Bool.or_true, Bool.true_or, Bool.or_false, Bool.false_or, Bool.false_eq_true, Bool.true_eq_false, if_true, if_false, ↓reduceIte], rfl⟩) dX5_isInOrder_37
    · skip
      refine lv_lload_n hx hb dX5_isInOrder_13 rfl (lv_at hl 1 rfl) ?_
      refine lv_lload_n hx hb dX5_isInOrder_14 rfl (lv_at hl 0 rfl) ?_
      refine lv_lsub hx hb dX5_isInOrder_15 ?_
      refine wo_sI (As := [.long (va - fl)]) (rest := []) (kX5_isRoom l dC dI ca ad S (va - fl)) ⟨hx, hb, hml, hown, hts⟩ (va_cwS 1 hts (wa_gS wd_380 wd_381 wd_1 wd_382) rfl rfl rfl (by decide +kernel) ⟨Nat.le_of_ble_eq_true rfl, Nat.le_of_ble_eq_true rfl⟩) hK hw hA rfl hl.1 rfl (Nat.le_of_ble_eq_true rfl) dX5_isInOrder_16 ⟨Nat.zero_le _, Nat.zero_le _⟩ (fun r_3 S_3 H locs hp_3 hw => ?_)
      have e9 := hp_3.1.symm
      subst e9
      have e9 := hp_3.2.symm
      subst e9
      refine lv_if_eq (tgt := 36) hx hb dX5_isInOrder_19 (by decide) (fun c_4 => ?_) (fun c_4 => ?_)
      · skip
        have c_4 : rmOk (va - fl) = false := nb_0 c_4
        refine lv_iconst (v := nI 0) hx hb dX5_isInOrder_36 (by decide) ?_
        exact ct_zret (S := S) (v := nI 0) hx hb hr hlocks hK (by first | decide | exact nb_z _) hw (⟨by simp only [bI, ordOk, c_1, c_2, c_4, decide_true, decide_false, Bool.not_true, Bool.not_false, Bool.true_and, Bool.and_true, Bool.false_and, Bool.and_false, Bool.or_true, Bool.true_or, Bool.or_false, Bool.false_or, Bool.false_eq_true, Bool.true_eq_false, if_true, if_false, ↓reduceIte], rfl⟩) dX5_isInOrder_37
      · skip
        have c_4 : rmOk (va - fl) = true := nb_1 c_4
        refine lv_lload hx hb dX5_isInOrder_22 (lv_at hl 2 rfl) ?_
        refine lv_lload_n hx hb dX5_isInOrder_24 rfl (lv_at hl 1 rfl) ?_
        refine lv_lsub hx hb dX5_isInOrder_25 ?_
        refine wo_sI (As := [.long (ce - va)]) (rest := []) (kX5_isRoom l dC dI ca ad S (ce - va)) ⟨hx, hb, hml, hown, hts⟩ (va_cwS 1 hts (wa_gS wd_380 wd_381 wd_1 wd_382) rfl rfl rfl (by decide +kernel) ⟨Nat.le_of_ble_eq_true rfl, Nat.le_of_ble_eq_true rfl⟩) hK hw hA rfl hl.1 rfl (Nat.le_of_ble_eq_true rfl) dX5_isInOrder_26 ⟨Nat.zero_le _, Nat.zero_le _⟩ (fun r_5 S_5 H locs hp_5 hw => ?_)
        have e9 := hp_5.1.symm
        subst e9
        have e9 := hp_5.2.symm
        subst e9
        refine lv_if_eq (tgt := 36) hx hb dX5_isInOrder_29 (by decide) (fun c_6 => ?_) (fun c_6 => ?_)
        · skip
          have c_6 : rmOk (ce - va) = false := nb_0 c_6
          refine lv_iconst (v := nI 0) hx hb dX5_isInOrder_36 (by decide) ?_
          exact ct_zret (S := S) (v := nI 0) hx hb hr hlocks hK (by first | decide | exact nb_z _) hw (⟨by simp only [bI, ordOk, c_1, c_2, c_4, c_6, decide_true, decide_false, Bool.not_true, Bool.not_false, Bool.true_and, Bool.and_true, Bool.false_and, Bool.and_false, Bool.or_true, Bool.true_or, Bool.or_false, Bool.false_or, Bool.false_eq_true, Bool.true_eq_false, if_true, if_false, ↓reduceIte], rfl⟩) dX5_isInOrder_37
        · skip
          have c_6 : rmOk (ce - va) = true := nb_1 c_6
          refine lv_iconst (v := nI 1) hx hb dX5_isInOrder_32 (by decide) ?_
          refine lv_goto (tgt := 37) hx hb dX5_isInOrder_33 (by decide) ?_
          exact ct_zret (S := S) (v := nI 1) hx hb hr hlocks hK (by first | decide | exact nb_z _) hw (⟨by simp only [bI, ordOk, c_1, c_2, c_4, c_6, decide_true, decide_false, Bool.not_true, Bool.not_false, Bool.true_and, Bool.and_true, Bool.false_and, Bool.and_false, Bool.or_true, Bool.true_or, Bool.or_false, Bool.false_or, Bool.false_eq_true, Bool.true_eq_false, if_true, if_false, ↓reduceIte], rfl⟩) dX5_isInOrder_37

set_option maxHeartbeats 4000000 in
set_option maxRecDepth 100000 in
theorem kX5_isSide (l : Launch) (dC : Nat → ClassId) (dI : Nat → Nat → Nat) (ca : Nat → ClassId) (ad : Nat → Nat) (S : sSt) (sd : Int32) : ct_I l yX5_isSide (Cond.code yX5_isSide cX5_isSide 1 (some .boolean) :: wa_T) ({ frames := 0, cells := 0, slots := 0, locals := 0 } : Room) (dC, dI) vwCl (tyl ca) (wc ca ad) S [.int sd] (fun r S2 => r = bI (sdOk sd) ∧ S2 = S) := by
  refine ct_ofI (by decide) (Nat.le_of_ble_eq_true rfl) ?_
  intro p e s m below meth c A ls hx hb hr hml hts hown hlocks hK hA hw hl
  have hl : lv_has ls 1 [(0, .int sd)] := hl
  refine lv_iload_n hx hb dX5_isSide_0 rfl (lv_at hl 0 rfl) ?_
  refine lv_if_eq (tgt := 9) hx hb dX5_isSide_1 (by decide) (fun c_1 => ?_) (fun c_1 => ?_)
  · skip
    refine lv_iconst (v := nI 1) hx hb dX5_isSide_9 (by decide) ?_
    refine lv_goto (tgt := 14) hx hb dX5_isSide_10 (by decide) ?_
    exact ct_zret (S := S) (v := nI 1) hx hb hr hlocks hK (by first | decide | exact nb_z _) hw (⟨by simp only [bI, sdOk, c_1, decide_true, decide_false, Bool.not_true, Bool.not_false, Bool.true_and, Bool.and_true, Bool.false_and, Bool.and_false, Bool.or_true, Bool.true_or, Bool.or_false, Bool.false_or, Bool.false_eq_true, Bool.true_eq_false, if_true, if_false, ↓reduceIte], rfl⟩) dX5_isSide_14
  · skip
    refine lv_iload_n hx hb dX5_isSide_4 rfl (lv_at hl 0 rfl) ?_
    refine lv_iconst (v := nI 1) hx hb dX5_isSide_5 (by decide) ?_
    refine lv_icmp_ne (tgt := 13) hx hb dX5_isSide_6 (by decide) (fun c_2 => ?_) (fun c_2 => ?_)
    · skip
      refine lv_iconst (v := nI 0) hx hb dX5_isSide_13 (by decide) ?_
      exact ct_zret (S := S) (v := nI 0) hx hb hr hlocks hK (by first | decide | exact nb_z _) hw (⟨by simp only [bI, sdOk, c_1, c_2, decide_true, decide_false, Bool.not_true, Bool.not_false, Bool.true_and, Bool.and_true, Bool.false_and, Bool.and_false, Bool.or_true, Bool.true_or, Bool.or_false, Bool.false_or, Bool.false_eq_true, Bool.true_eq_false, if_true, if_false, ↓reduceIte], rfl⟩) dX5_isSide_14
    · skip
      refine lv_iconst (v := nI 1) hx hb dX5_isSide_9 (by decide) ?_
      refine lv_goto (tgt := 14) hx hb dX5_isSide_10 (by decide) ?_
      exact ct_zret (S := S) (v := nI 1) hx hb hr hlocks hK (by first | decide | exact nb_z _) hw (⟨by simp only [bI, sdOk, c_1, c_2, decide_true, decide_false, Bool.not_true, Bool.not_false, Bool.true_and, Bool.and_true, Bool.false_and, Bool.and_false, Bool.or_true, Bool.true_or, Bool.or_false, Bool.false_or, Bool.false_eq_true, Bool.true_eq_false, if_true, if_false, ↓reduceIte], rfl⟩) dX5_isSide_14

set_option maxHeartbeats 4000000 in
set_option maxRecDepth 100000 in
theorem kX5_canAskFor (l : Launch) (dC : Nat → ClassId) (dI : Nat → Nat → Nat) (ca : Nat → ClassId) (ad : Nat → Nat) (S : sSt) (bb : Int32) (sd : Int32) (pp : Int32) (vv : Int64) : ct_I l yX5_canAskFor (Cond.code yX5_canAskFor cX5_canAskFor 6 (some .boolean) :: wa_T) ({ frames := 2, cells := 0, slots := 0, locals := 41 } : Room) (dC, dI) vwCl (tyl ca) (wc ca ad) S [.ref (ad 0), .int bb, .int sd, .int pp, .long vv] (fun r S2 => r = bI (caf S bb sd pp vv) ∧ S2 = S) := by
  refine ct_ofI (by decide) (Nat.le_of_ble_eq_true rfl) ?_
  intro p e s m below meth c A ls hx hb hr hml hts hown hlocks hK hA hw hl
  have hl : lv_has ls 6 [(0, .ref (ad 0)), (1, .int bb), (2, .int sd), (3, .int pp), (4, .long vv)] := hl
  refine lv_aload_n hx hb dX5_canAskFor_0 rfl (lv_at hl 0 rfl) ?_
  refine wo_get hx hb hts inX5 hown hK hw 0 rfl rfl 1 (by decide) (hts _ wd_167) (fun _ h9 => h9) rfl dX5_canAskFor_1 ?_
  refine lv_iload_n hx hb dX5_canAskFor_4 rfl (lv_at hl 1 rfl) ?_
  refine wo_vI (As := [.int bb]) (rest := []) (kX0_has l dC dI ca ad S bb) ⟨hx, hb, hml, hown, hts⟩ (cwV 1 hts (wa_gV wd_208 wd_209 wd_210 wd_4 wd_211) rfl rfl rfl (by decide +kernel) ⟨Nat.le_of_ble_eq_true rfl, Nat.le_of_ble_eq_true rfl⟩) hK hw hA 2 rfl rfl rfl rfl hl.1 rfl (Nat.le_of_ble_eq_true rfl) dX5_canAskFor_5 ⟨Nat.zero_le _, Nat.zero_le _⟩ (fun r_1 S_1 H locs hp_1 hw => ?_)
  have e9 := hp_1.1.symm
  subst e9
  have e9 := hp_1.2.symm
  subst e9
  refine lv_if_eq (tgt := 40) hx hb dX5_canAskFor_8 (by decide) (fun c_2 => ?_) (fun c_2 => ?_)
  · skip
    have c_2 : hbd S bb = false := nb_0 c_2
    refine lv_iconst (v := nI 0) hx hb dX5_canAskFor_40 (by decide) ?_
    exact ct_zret (S := S) (v := nI 0) hx hb hr hlocks hK (by first | decide | exact nb_z _) hw (⟨by simp only [bI, caf, c_2, decide_true, decide_false, Bool.not_true, Bool.not_false, Bool.true_and, Bool.and_true, Bool.false_and, Bool.and_false, Bool.or_true, Bool.true_or, Bool.or_false, Bool.false_or, Bool.false_eq_true, Bool.true_eq_false, if_true, if_false, ↓reduceIte], rfl⟩) dX5_canAskFor_41
  · skip
    have c_2 : hbd S bb = true := nb_1 c_2
    refine lv_iload_n hx hb dX5_canAskFor_11 rfl (lv_at hl 2 rfl) ?_
    refine wo_sI (As := [.int sd]) (rest := []) (kX5_isSide l dC dI ca ad S sd) ⟨hx, hb, hml, hown, hts⟩ (va_cwS 1 hts (wa_gS wd_241 wd_242 wd_1 wd_243) rfl rfl rfl (by decide +kernel) ⟨Nat.le_of_ble_eq_true rfl, Nat.le_of_ble_eq_true rfl⟩) hK hw hA rfl hl.1 rfl (Nat.le_of_ble_eq_true rfl) dX5_canAskFor_12 ⟨Nat.zero_le _, Nat.zero_le _⟩ (fun r_3 S_3 H locs hp_3 hw => ?_)
    have e9 := hp_3.1.symm
    subst e9
    have e9 := hp_3.2.symm
    subst e9
    refine lv_if_eq (tgt := 40) hx hb dX5_canAskFor_15 (by decide) (fun c_4 => ?_) (fun c_4 => ?_)
    · skip
      have c_4 : sdOk sd = false := nb_0 c_4
      refine lv_iconst (v := nI 0) hx hb dX5_canAskFor_40 (by decide) ?_
      exact ct_zret (S := S) (v := nI 0) hx hb hr hlocks hK (by first | decide | exact nb_z _) hw (⟨by simp only [bI, caf, c_2, c_4, decide_true, decide_false, Bool.not_true, Bool.not_false, Bool.true_and, Bool.and_true, Bool.false_and, Bool.and_false, Bool.or_true, Bool.true_or, Bool.or_false, Bool.false_or, Bool.false_eq_true, Bool.true_eq_false, if_true, if_false, ↓reduceIte], rfl⟩) dX5_canAskFor_41
    · skip
      have c_4 : sdOk sd = true := nb_1 c_4
      refine lv_aload_n hx hb dX5_canAskFor_18 rfl (lv_at hl 0 rfl) ?_
      refine wo_get hx hb hts inX5 hown hK hw 0 rfl rfl 0 (by decide) (hts _ wd_166) (fun _ h9 => h9) rfl dX5_canAskFor_19 ?_
      refine lv_iload_n hx hb dX5_canAskFor_22 rfl (lv_at hl 3 rfl) ?_
      refine wo_vI (As := [.int pp]) (rest := []) (kX1_isWell l dC dI ca ad S pp) ⟨hx, hb, hml, hown, hts⟩ (cwV 1 hts (wa_gV wd_192 wd_193 wd_194 wd_2 wd_195) rfl rfl rfl (by decide +kernel) ⟨Nat.le_of_ble_eq_true rfl, Nat.le_of_ble_eq_true rfl⟩) hK hw hA 1 rfl rfl rfl rfl hl.1 rfl (Nat.le_of_ble_eq_true rfl) dX5_canAskFor_23 ⟨Nat.zero_le _, Nat.zero_le _⟩ (fun r_5 S_5 H locs hp_5 hw => ?_)
      have e9 := hp_5.1.symm
      subst e9
      have e9 := hp_5.2.symm
      subst e9
      refine lv_if_eq (tgt := 40) hx hb dX5_canAskFor_26 (by decide) (fun c_6 => ?_) (fun c_6 => ?_)
      · skip
        have c_6 : wl S pp = false := nb_0 c_6
        refine lv_iconst (v := nI 0) hx hb dX5_canAskFor_40 (by decide) ?_
        exact ct_zret (S := S) (v := nI 0) hx hb hr hlocks hK (by first | decide | exact nb_z _) hw (⟨by simp only [bI, caf, c_2, c_4, c_6, decide_true, decide_false, Bool.not_true, Bool.not_false, Bool.true_and, Bool.and_true, Bool.false_and, Bool.and_false, Bool.or_true, Bool.true_or, Bool.or_false, Bool.false_or, Bool.false_eq_true, Bool.true_eq_false, if_true, if_false, ↓reduceIte], rfl⟩) dX5_canAskFor_41
      · skip
        have c_6 : wl S pp = true := nb_1 c_6
        refine lv_lload hx hb dX5_canAskFor_29 (lv_at hl 4 rfl) ?_
        refine lv_lconst (v := 1) hx hb dX5_canAskFor_31 (by decide) ?_
        refine lc_lt (tgt := 40) hx hb dX5_canAskFor_32 dX5_canAskFor_33 (by decide) (fun c_7 => ?_) (fun c_7 => ?_)
        · skip
          refine lv_iconst (v := nI 0) hx hb dX5_canAskFor_40 (by decide) ?_
          exact ct_zret (S := S) (v := nI 0) hx hb hr hlocks hK (by first | decide | exact nb_z _) hw (⟨by simp only [bI, caf, c_2, c_4, c_6, c_7, decide_true, decide_false, Bool.not_true, Bool.not_false, Bool.true_and, Bool.and_true, Bool.false_and, Bool.and_false, Bool.or_true, Bool.true_or, Bool.or_false, Bool.false_or, Bool.false_eq_true, Bool.true_eq_false, if_true, if_false, ↓reduceIte], rfl⟩) dX5_canAskFor_41
        · skip
          refine lv_iconst (v := nI 1) hx hb dX5_canAskFor_36 (by decide) ?_
          refine lv_goto (tgt := 41) hx hb dX5_canAskFor_37 (by decide) ?_
          exact ct_zret (S := S) (v := nI 1) hx hb hr hlocks hK (by first | decide | exact nb_z _) hw (⟨by simp only [bI, caf, c_2, c_4, c_6, c_7, decide_true, decide_false, Bool.not_true, Bool.not_false, Bool.true_and, Bool.and_true, Bool.false_and, Bool.and_false, Bool.or_true, Bool.true_or, Bool.or_false, Bool.false_or, Bool.false_eq_true, Bool.true_eq_false, if_true, if_false, ↓reduceIte], rfl⟩) dX5_canAskFor_41

set_option maxHeartbeats 4000000 in
set_option maxRecDepth 100000 in
theorem kX5_richestOther (l : Launch) (dC : Nat → ClassId) (dI : Nat → Nat → Nat) (ca : Nat → ClassId) (ad : Nat → Nat) (S : sSt) (bb : Nat) (sd : Nat) (pp : Nat) (hb6 : bb < 6) (hs2 : sd < 2) (hp6 : pp < 6) : ct_I l yX5_richestOther (Cond.code yX5_richestOther cX5_richestOther 8 (some .int) :: wa_T) ({ frames := 2, cells := 0, slots := 0, locals := 41 } : Room) (dC, dI) vwCl (tyl ca) (wc ca ad) S [.ref (ad 0), .int (nI bb), .int (nI sd), .int (nI pp)] (fun r S2 => r = (rich S (bb * 2 + sd) pp 6).1 ∧ S2 = S) := by
  refine ct_ofI (by decide) (Nat.le_of_ble_eq_true rfl) ?_
  intro p e s m below meth c A ls hx hb hr hml hts hown hlocks hK hA hw hl
  have hl : lv_has ls 8 [(0, .ref (ad 0)), (1, .int (nI bb)), (2, .int (nI sd)), (3, .int (nI pp))] := hl
  refine lv_iconst (v := (-1)) hx hb dX5_richestOther_0 (by decide) ?_
  refine lv_istore (lv' := [(4, .int (-1)), (0, .ref (ad 0)), (1, .int (nI bb)), (2, .int (nI sd)), (3, .int (nI pp))]) hx hb dX5_richestOther_1 hl (by decide) rfl (fun ls hl => ?_)
  refine lv_lconst (v := 0) hx hb dX5_richestOther_3 (by decide) ?_
  refine lv_lstore (lv' := [(5, .long 0), (4, .int (-1)), (0, .ref (ad 0)), (1, .int (nI bb)), (2, .int (nI sd)), (3, .int (nI pp))]) hx hb dX5_richestOther_4 hl (by decide) rfl (fun ls hl => ?_)
  refine lv_iconst (v := nI 0) hx hb dX5_richestOther_6 (by decide) ?_
  refine lv_istore (lv' := [(7, .int (nI 0)), (5, .long 0), (4, .int (-1)), (0, .ref (ad 0)), (1, .int (nI bb)), (2, .int (nI sd)), (3, .int (nI pp))]) hx hb dX5_richestOther_7 hl (by decide) rfl (fun ls hl => ?_)
  have lp_9 : ∀ (n : Nat) (i : Nat), i ≤ 6 → 7 ≤ i + n → ∀ (H : Heap) (locs : List Loc) (ls : Array Slot), wo_w (dC, dI) vwCl A s.heap (wc ca ad S) H locs → lv_has ls 8 [(0, .ref (ad 0)), (1, .int (nI bb)), (2, .int (nI sd)), (3, .int (nI pp)), (4, .int ((rich S (bb * 2 + sd) pp i).1)), (5, .long ((rich S (bb * 2 + sd) pp i).2)), (7, .int (nI i))] → W p l e ({ frames := 2, cells := 0, slots := 0, locals := 41 } : Room) s m ([.ref (ad 0), .int (nI bb), .int (nI sd), .int (nI pp)] : List Value).toArray below meth c H locs 0 0 (MQ below (va_Qi (fun r S2 => r = (rich S (bb * 2 + sd) pp 6).1 ∧ S2 = S) (ct_B (dC, dI) vwCl (tyl ca) (wc ca ad) A) A) ([.ref (ad 0), .int (nI bb), .int (nI sd), .int (nI pp)] : List Value).toArray s 0 0 A) (F0 m 9 ls []) := by
    intro n
    induction n with
    | zero =>
      intro i hi hn
      exfalso
      omega
    | succ n ih_9 =>
      intro i hi hn H locs ls hw hl
      refine lv_iload hx hb dX5_richestOther_9 (lv_at hl 6 rfl) ?_
      refine lv_bipush (v := nI 6) hx hb dX5_richestOther_11 (by decide) ?_
      refine lv_icmp_ge (tgt := 74) hx hb dX5_richestOther_13 (by decide) (fun c_1 => ?_) (fun c_1 => ?_)
      · skip
        have c_1 : 6 ≤ i := (nI_leI (a := 6) (b := i) (by omega) (by omega)).mp c_1
        obtain rfl : 6 = i := by omega
        refine lv_iload hx hb dX5_richestOther_74 (lv_at hl 4 rfl) ?_
        exact ct_iret (S := S) (v := (rich S (bb * 2 + sd) pp 6).1) hx hb hr hlocks hK hw (⟨rfl, rfl⟩) dX5_richestOther_76
      · skip
        have c_1 : ¬ (6 ≤ i) := fun h9 => c_1 ((nI_leI (a := 6) (b := i) (by omega) (by omega)).mpr h9)
        refine lv_iload hx hb dX5_richestOther_16 (lv_at hl 6 rfl) ?_
        refine lv_iload_n hx hb dX5_richestOther_18 rfl (lv_at hl 3 rfl) ?_
        refine lv_icmp_eq (tgt := 68) hx hb dX5_richestOther_19 (by decide) (fun c_2 => ?_) (fun c_2 => ?_)
        · skip
          have c_2 : i = pp := (nI_eq (a := i) (b := pp) (by omega) (by omega)).mp c_2
          refine lv_iinc (v := nI (i + 1)) (lv' := [(7, .int (nI (i + 1))), (0, .ref (ad 0)), (1, .int (nI bb)), (2, .int (nI sd)), (3, .int (nI pp)), (4, .int ((rich S (bb * 2 + sd) pp i).1)), (5, .long ((rich S (bb * 2 + sd) pp i).2))]) hx hb dX5_richestOther_68 hl (k := 6) rfl (nI_inc _) (by decide) rfl (fun ls hl => ?_)
          refine lv_goto (tgt := 9) hx hb dX5_richestOther_71 (by decide) ?_
          have e9 : (rich S (bb * 2 + sd) pp i).1 = (rich S (bb * 2 + sd) pp (i + 1)).1 := by first | rfl | (simp only [rich, c_1, c_2, decide_true, decide_false, Bool.not_true, Bool.not_false, Bool.true_and, Bool.and_true, Bool.false_and, Bool.and_false, Bool.or_true, Bool.true_or, Bool.or_false, Bool.false_or, Bool.false_eq_true, Bool.true_eq_false, if_true, if_false, ↓reduceIte]; done)
          rw [e9] at hl
          have e9 : (rich S (bb * 2 + sd) pp i).2 = (rich S (bb * 2 + sd) pp (i + 1)).2 := by first | rfl | (simp only [rich, c_1, c_2, decide_true, decide_false, Bool.not_true, Bool.not_false, Bool.true_and, Bool.and_true, Bool.false_and, Bool.and_false, Bool.or_true, Bool.true_or, Bool.or_false, Bool.false_or, Bool.false_eq_true, Bool.true_eq_false, if_true, if_false, ↓reduceIte]; done)
          rw [e9] at hl
          exact ih_9 (i + 1) (by omega) (by omega) _ _ _ hw (lv_sub hl [1, 2, 3, 4, 5, 6, 0] rfl)
        · skip
          have c_2 : ¬ (i = pp) := fun h9 => c_2 ((nI_eq (a := i) (b := pp) (by omega) (by omega)).mpr h9)
          refine lv_aload_n hx hb dX5_richestOther_22 rfl (lv_at hl 0 rfl) ?_
          refine wo_get hx hb hts inX5 hown hK hw 0 rfl rfl 0 (by decide) (hts _ wd_166) (fun _ h9 => h9) rfl dX5_richestOther_23 ?_
          refine lv_iload hx hb dX5_richestOther_26 (lv_at hl 6 rfl) ?_
          refine wo_vI (As := [.int (nI i)]) (rest := []) (kX1_isWell l dC dI ca ad S (nI i)) ⟨hx, hb, hml, hown, hts⟩ (cwV 1 hts (wa_gV wd_192 wd_193 wd_194 wd_2 wd_195) rfl rfl rfl (by decide +kernel) ⟨Nat.le_of_ble_eq_true rfl, Nat.le_of_ble_eq_true rfl⟩) hK hw hA 1 rfl rfl rfl rfl hl.1 rfl (Nat.le_of_ble_eq_true rfl) dX5_richestOther_28 ⟨Nat.zero_le _, Nat.zero_le _⟩ (fun r_3 S_3 H locs hp_3 hw => ?_)
          have e9 := hp_3.1.symm
          subst e9
          have e9 := hp_3.2.symm
          subst e9
          refine lv_if_eq (tgt := 68) hx hb dX5_richestOther_31 (by decide) (fun c_4 => ?_) (fun c_4 => ?_)
          · skip
            have c_4 : wl S (nI i) = false := nb_0 c_4
            refine lv_iinc (v := nI (i + 1)) (lv' := [(7, .int (nI (i + 1))), (0, .ref (ad 0)), (1, .int (nI bb)), (2, .int (nI sd)), (3, .int (nI pp)), (4, .int ((rich S (bb * 2 + sd) pp i).1)), (5, .long ((rich S (bb * 2 + sd) pp i).2))]) hx hb dX5_richestOther_68 hl (k := 6) rfl (nI_inc _) (by decide) rfl (fun ls hl => ?_)
            refine lv_goto (tgt := 9) hx hb dX5_richestOther_71 (by decide) ?_
            have e9 : (rich S (bb * 2 + sd) pp i).1 = (rich S (bb * 2 + sd) pp (i + 1)).1 := by first | rfl | (simp only [rich, c_1, c_2, c_4, decide_true, decide_false, Bool.not_true, Bool.not_false, Bool.true_and, Bool.and_true, Bool.false_and, Bool.and_false, Bool.or_true, Bool.true_or, Bool.or_false, Bool.false_or, Bool.false_eq_true, Bool.true_eq_false, if_true, if_false, ↓reduceIte]; done)
            rw [e9] at hl
            have e9 : (rich S (bb * 2 + sd) pp i).2 = (rich S (bb * 2 + sd) pp (i + 1)).2 := by first | rfl | (simp only [rich, c_1, c_2, c_4, decide_true, decide_false, Bool.not_true, Bool.not_false, Bool.true_and, Bool.and_true, Bool.false_and, Bool.and_false, Bool.or_true, Bool.true_or, Bool.or_false, Bool.false_or, Bool.false_eq_true, Bool.true_eq_false, if_true, if_false, ↓reduceIte]; done)
            rw [e9] at hl
            exact ih_9 (i + 1) (by omega) (by omega) _ _ _ hw (lv_sub hl [1, 2, 3, 4, 5, 6, 0] rfl)
          · skip
            have c_4 : wl S (nI i) = true := nb_1 c_4
            refine lv_aload_n hx hb dX5_richestOther_34 rfl (lv_at hl 0 rfl) ?_
            refine wo_get hx hb hts inX5 hown hK hw 0 rfl rfl 1 (by decide) (hts _ wd_167) (fun _ h9 => h9) rfl dX5_richestOther_35 ?_
            refine lv_iload_n hx hb dX5_richestOther_38 rfl (lv_at hl 1 rfl) ?_
            refine lv_iload_n hx hb dX5_richestOther_39 rfl (lv_at hl 2 rfl) ?_
            refine lv_iload hx hb dX5_richestOther_40 (lv_at hl 6 rfl) ?_
            refine wo_vL (As := [.int (nI bb), .int (nI sd), .int (nI i)]) (rest := []) (kX0_shareOf l dC dI ca ad S bb sd i (by first | assumption | omega) (by first | assumption | omega) (by first | assumption | omega)) ⟨hx, hb, hml, hown, hts⟩ (cwV 3 hts (wa_gV wd_244 wd_219 wd_220 wd_4 wd_221) rfl rfl rfl (by decide +kernel) ⟨Nat.le_of_ble_eq_true rfl, Nat.le_of_ble_eq_true rfl⟩) hK hw hA 2 rfl rfl rfl rfl hl.1 rfl (Nat.le_of_ble_eq_true rfl) dX5_richestOther_42 ⟨Nat.zero_le _, Nat.zero_le _⟩ (fun r_5 S_5 H locs hp_5 hw => ?_)
            have e9 := hp_5.1.symm
            subst e9
            have e9 := hp_5.2.symm
            subst e9
            refine lv_lload hx hb dX5_richestOther_45 (lv_at hl 5 rfl) ?_
            refine lc_le (tgt := 68) hx hb dX5_richestOther_47 dX5_richestOther_48 (by decide) (fun c_6 => ?_) (fun c_6 => ?_)
            · skip
              refine lv_iinc (v := nI (i + 1)) (lv' := [(7, .int (nI (i + 1))), (0, .ref (ad 0)), (1, .int (nI bb)), (2, .int (nI sd)), (3, .int (nI pp)), (4, .int ((rich S (bb * 2 + sd) pp i).1)), (5, .long ((rich S (bb * 2 + sd) pp i).2))]) hx hb dX5_richestOther_68 hl (k := 6) rfl (nI_inc _) (by decide) rfl (fun ls hl => ?_)
              refine lv_goto (tgt := 9) hx hb dX5_richestOther_71 (by decide) ?_
              have e9 : (rich S (bb * 2 + sd) pp i).1 = (rich S (bb * 2 + sd) pp (i + 1)).1 := by first | rfl | (simp only [rich, c_1, c_2, c_4, c_6, decide_true, decide_false, Bool.not_true, Bool.not_false, Bool.true_and, Bool.and_true, Bool.false_and, Bool.and_false, Bool.or_true, Bool.true_or, Bool.or_false, Bool.false_or, Bool.false_eq_true, Bool.true_eq_false, if_true, if_false, ↓reduceIte]; done)
              rw [e9] at hl
              have e9 : (rich S (bb * 2 + sd) pp i).2 = (rich S (bb * 2 + sd) pp (i + 1)).2 := by first | rfl | (simp only [rich, c_1, c_2, c_4, c_6, decide_true, decide_false, Bool.not_true, Bool.not_false, Bool.true_and, Bool.and_true, Bool.false_and, Bool.and_false, Bool.or_true, Bool.true_or, Bool.or_false, Bool.false_or, Bool.false_eq_true, Bool.true_eq_false, if_true, if_false, ↓reduceIte]; done)
              rw [e9] at hl
              exact ih_9 (i + 1) (by omega) (by omega) _ _ _ hw (lv_sub hl [1, 2, 3, 4, 5, 6, 0] rfl)
            · skip
              refine lv_iload hx hb dX5_richestOther_51 (lv_at hl 6 rfl) ?_
              refine lv_istore (lv' := [(4, .int (nI i)), (0, .ref (ad 0)), (1, .int (nI bb)), (2, .int (nI sd)), (3, .int (nI pp)), (5, .long ((rich S (bb * 2 + sd) pp i).2)), (7, .int (nI i))]) hx hb dX5_richestOther_53 hl (by decide) rfl (fun ls hl => ?_)
              refine lv_aload_n hx hb dX5_richestOther_55 rfl (lv_at hl 1 rfl) ?_
              refine wo_get hx hb hts inX5 hown hK hw 0 rfl rfl 1 (by decide) (hts _ wd_167) (fun _ h9 => h9) rfl dX5_richestOther_56 ?_
              refine lv_iload_n hx hb dX5_richestOther_59 rfl (lv_at hl 2 rfl) ?_
              refine lv_iload_n hx hb dX5_richestOther_60 rfl (lv_at hl 3 rfl) ?_
              refine lv_iload hx hb dX5_richestOther_61 (lv_at hl 6 rfl) ?_
              refine wo_vL (As := [.int (nI bb), .int (nI sd), .int (nI i)]) (rest := []) (kX0_shareOf l dC dI ca ad S bb sd i (by first | assumption | omega) (by first | assumption | omega) (by first | assumption | omega)) ⟨hx, hb, hml, hown, hts⟩ (cwV 3 hts (wa_gV wd_244 wd_219 wd_220 wd_4 wd_221) rfl rfl rfl (by decide +kernel) ⟨Nat.le_of_ble_eq_true rfl, Nat.le_of_ble_eq_true rfl⟩) hK hw hA 2 rfl rfl rfl rfl hl.1 rfl (Nat.le_of_ble_eq_true rfl) dX5_richestOther_63 ⟨Nat.zero_le _, Nat.zero_le _⟩ (fun r_7 S_7 H locs hp_7 hw => ?_)
              have e9 := hp_7.1.symm
              subst e9
              have e9 := hp_7.2.symm
              subst e9
              refine lv_lstore (lv' := [(5, .long (S.2 (14 + (bb * 2 + sd)) i)), (4, .int (nI i)), (0, .ref (ad 0)), (1, .int (nI bb)), (2, .int (nI sd)), (3, .int (nI pp)), (7, .int (nI i))]) hx hb dX5_richestOther_66 hl (by decide) rfl (fun ls hl => ?_)
              refine lv_iinc (v := nI (i + 1)) (lv' := [(7, .int (nI (i + 1))), (5, .long (S.2 (14 + (bb * 2 + sd)) i)), (4, .int (nI i)), (0, .ref (ad 0)), (1, .int (nI bb)), (2, .int (nI sd)), (3, .int (nI pp))]) hx hb dX5_richestOther_68 hl (k := 6) rfl (nI_inc _) (by decide) rfl (fun ls hl => ?_)
              refine lv_goto (tgt := 9) hx hb dX5_richestOther_71 (by decide) ?_
              have e9 : nI i = (rich S (bb * 2 + sd) pp (i + 1)).1 := by first | rfl | (simp only [rich, c_1, c_2, c_4, c_6, decide_true, decide_false, Bool.not_true, Bool.not_false, Bool.true_and, Bool.and_true, Bool.false_and, Bool.and_false, Bool.or_true, Bool.true_or, Bool.or_false, Bool.false_or, Bool.false_eq_true, Bool.true_eq_false, if_true, if_false, ↓reduceIte]; done)
              rw [e9] at hl
              have e9 : S.2 (14 + (bb * 2 + sd)) i = (rich S (bb * 2 + sd) pp (i + 1)).2 := by first | rfl | (simp only [rich, c_1, c_2, c_4, c_6, decide_true, decide_false, Bool.not_true, Bool.not_false, Bool.true_and, Bool.and_true, Bool.false_and, Bool.and_false, Bool.or_true, Bool.true_or, Bool.or_false, Bool.false_or, Bool.false_eq_true, Bool.true_eq_false, if_true, if_false, ↓reduceIte]; done)
              rw [e9] at hl
              exact ih_9 (i + 1) (by omega) (by omega) _ _ _ hw (lv_sub hl [3, 4, 5, 6, 2, 1, 0] rfl)
  have e9 : (-1) = (rich S (bb * 2 + sd) pp 0).1 := by first | rfl | (simp only [rich, decide_true, decide_false, Bool.not_true, Bool.not_false, Bool.true_and, Bool.and_true, Bool.false_and, Bool.and_false, Bool.or_true, Bool.true_or, Bool.or_false, Bool.false_or, Bool.false_eq_true, Bool.true_eq_false, if_true, if_false, ↓reduceIte]; done)
  rw [e9] at hl
  have e9 : 0 = (rich S (bb * 2 + sd) pp 0).2 := by first | rfl | (simp only [rich, decide_true, decide_false, Bool.not_true, Bool.not_false, Bool.true_and, Bool.and_true, Bool.false_and, Bool.and_false, Bool.or_true, Bool.true_or, Bool.or_false, Bool.false_or, Bool.false_eq_true, Bool.true_eq_false, if_true, if_false, ↓reduceIte]; done)
  rw [e9] at hl
  exact lp_9 7 0 (by omega) (by omega) _ _ _ hw (lv_sub hl [3, 4, 5, 6, 2, 1, 0] rfl)

set_option maxHeartbeats 4000000 in
set_option maxRecDepth 100000 in
theorem kX5_send (l : Launch) (dC : Nat → ClassId) (dI : Nat → Nat → Nat) (ca : Nat → ClassId) (ad : Nat → Nat) (S : sSt) (bb : Nat) (sd : Nat) (fr : Nat) (to : Nat) (vv : Int64) (nr : Nat) (hb6 : bb < 6) (hs2 : sd < 2) (hf6 : fr < 6) (hr : nr ≤ 200) (hcnt : S.1 3 0 = nI nr) : ct_I l yX5_send (Cond.code yX5_send cX5_send 7 (some .int) :: wa_T) ({ frames := 1, cells := 0, slots := 0, locals := 26 } : Room) (dC, dI) vwCl (tyl ca) (wc ca ad) S [.ref (ad 0), .int (nI bb), .int (nI sd), .int (nI fr), .int (nI to), .long vv] (fun r S2 => r = (if nr < 200 then nI (nr + 1) else nI 0) ∧ S2 = sendS S nr bb sd fr to vv) := by
  refine ct_ofI (by decide) (Nat.le_of_ble_eq_true rfl) ?_
  intro p e s m below meth c A ls hx hb hr hml hts hown hlocks hK hA hw hl
  have hl : lv_has ls 7 [(0, .ref (ad 0)), (1, .int (nI bb)), (2, .int (nI sd)), (3, .int (nI fr)), (4, .int (nI to)), (5, .long vv)] := hl
  refine lv_aload_n hx hb dX5_send_0 rfl (lv_at hl 0 rfl) ?_
  refine wo_get hx hb hts inX5 hown hK hw 0 rfl rfl 2 (by decide) (hts _ wd_168) (fun _ h9 => h9) rfl dX5_send_1 ?_
  refine wo_get hx hb hts inX3 hown hK hw 3 rfl rfl 0 (by decide) (hts _ wd_90) (fun _ h9 => h9) rfl dX5_send_4 ?_
  refine tp_i (y := nI nr) (hcnt) ?_
  refine lv_sipush (v := nI 200) hx hb dX5_send_7 (by decide) ?_
  refine lv_icmp_lt (tgt := 15) hx hb dX5_send_10 (by decide) (fun c_1 => ?_) (fun c_1 => ?_)
  · skip
    have c_1 : nr < 200 := (nI_ltI (a := nr) (b := 200) (by omega) (by omega)).mp c_1
    refine lv_aload_n hx hb dX5_send_15 rfl (lv_at hl 0 rfl) ?_
    refine wo_get hx hb hts inX5 hown hK hw 0 rfl rfl 1 (by decide) (hts _ wd_167) (fun _ h9 => h9) rfl dX5_send_16 ?_
    refine lv_iload_n hx hb dX5_send_19 rfl (lv_at hl 1 rfl) ?_
    refine lv_iload_n hx hb dX5_send_20 rfl (lv_at hl 2 rfl) ?_
    refine lv_iload_n hx hb dX5_send_21 rfl (lv_at hl 3 rfl) ?_
    refine lv_lload hx hb dX5_send_22 (lv_at hl 5 rfl) ?_
    refine lv_lneg hx hb dX5_send_24 ?_
    refine wo_vV (As := [.int (nI bb), .int (nI sd), .int (nI fr), .long (-vv)]) (rest := []) (kX0_addToShare l dC dI ca ad S bb sd fr (-vv) (by first | assumption | omega) (by first | assumption | omega) (by first | assumption | omega)) ⟨hx, hb, hml, hown, hts⟩ (cwV 4 hts (wa_gV wd_249 wd_226 wd_227 wd_4 wd_228) rfl rfl rfl (by decide +kernel) ⟨Nat.le_of_ble_eq_true rfl, Nat.le_of_ble_eq_true rfl⟩) hK hw hA 2 rfl rfl rfl rfl hl.1 rfl (Nat.le_of_ble_eq_true rfl) dX5_send_25 ⟨Nat.zero_le _, Nat.zero_le _⟩ (fun S_2 H locs hp_2 hw => ?_)
    have e9 := hp_2.symm
    subst e9
    refine lv_aload_n hx hb dX5_send_28 rfl (lv_at hl 0 rfl) ?_
    refine wo_get hx hb hts inX5 hown hK hw 0 rfl rfl 2 (by decide) (hts _ wd_168) (fun _ h9 => h9) rfl dX5_send_29 ?_
    refine lv_iload_n hx hb dX5_send_32 rfl (lv_at hl 1 rfl) ?_
    refine lv_iload_n hx hb dX5_send_33 rfl (lv_at hl 2 rfl) ?_
    refine lv_iload_n hx hb dX5_send_34 rfl (lv_at hl 3 rfl) ?_
    refine lv_iload hx hb dX5_send_35 (lv_at hl 4 rfl) ?_
    refine lv_lload hx hb dX5_send_37 (lv_at hl 5 rfl) ?_
    refine wo_vI (As := [.int (nI bb), .int (nI sd), .int (nI fr), .int (nI to), .long vv]) (rest := []) (kX3_open l dC dI ca ad (addSh S (bb * 2 + sd) fr (-vv)) bb sd fr to vv nr (by first | assumption | omega) (by first | assumption | omega)) ⟨hx, hb, hml, hown, hts⟩ (cwV 5 hts (wa_gV wd_250 wd_251 wd_252 wd_5 wd_253) rfl rfl rfl (by decide +kernel) ⟨Nat.le_of_ble_eq_true rfl, Nat.le_of_ble_eq_true rfl⟩) hK hw hA 3 rfl rfl rfl rfl hl.1 rfl (Nat.le_of_ble_eq_true rfl) dX5_send_39 ⟨Nat.zero_le _, Nat.zero_le _⟩ (fun r_3 S_3 H locs hp_3 hw => ?_)
    have e9 := hp_3.1.symm
    subst e9
    have e9 := hp_3.2.symm
    subst e9
    exact ct_iret (S := ropen (addSh S (bb * 2 + sd) fr (-vv)) nr bb sd fr to vv) (v := nI (nr + 1)) hx hb hr hlocks hK hw (⟨by simp only [c_1, decide_true, decide_false, Bool.not_true, Bool.not_false, Bool.true_and, Bool.and_true, Bool.false_and, Bool.and_false, Bool.or_true, Bool.true_or, Bool.or_false, Bool.false_or, Bool.false_eq_true, Bool.true_eq_false, if_true, if_false, ↓reduceIte], by simp only [sendS, c_1, decide_true, decide_false, Bool.not_true, Bool.not_false, Bool.true_and, Bool.and_true, Bool.false_and, Bool.and_false, Bool.or_true, Bool.true_or, Bool.or_false, Bool.false_or, Bool.false_eq_true, Bool.true_eq_false, if_true, if_false, ↓reduceIte]⟩) dX5_send_42
  · skip
    have c_1 : ¬ (nr < 200) := fun h9 => c_1 ((nI_ltI (a := nr) (b := 200) (by omega) (by omega)).mpr h9)
    refine lv_iconst (v := nI 0) hx hb dX5_send_13 (by decide) ?_
    exact ct_iret (S := S) (v := nI 0) hx hb hr hlocks hK hw (⟨by simp only [c_1, decide_true, decide_false, Bool.not_true, Bool.not_false, Bool.true_and, Bool.and_true, Bool.false_and, Bool.and_false, Bool.or_true, Bool.true_or, Bool.or_false, Bool.false_or, Bool.false_eq_true, Bool.true_eq_false, if_true, if_false, ↓reduceIte], by simp only [sendS, c_1, decide_true, decide_false, Bool.not_true, Bool.not_false, Bool.true_and, Bool.and_true, Bool.false_and, Bool.and_false, Bool.or_true, Bool.true_or, Bool.or_false, Bool.false_or, Bool.false_eq_true, Bool.true_eq_false, if_true, if_false, ↓reduceIte]⟩) dX5_send_14

set_option maxHeartbeats 4000000 in
set_option maxRecDepth 100000 in
theorem kX5_goFirst (l : Launch) (dC : Nat → ClassId) (dI : Nat → Nat → Nat) (ca : Nat → ClassId) (ad : Nat → Nat) (S : sSt) (pp : Nat) (hp6 : pp < 6) (hq : QW S pp) : ct_I l yX5_goFirst (Cond.code yX5_goFirst cX5_goFirst 2 (some .boolean) :: wa_T) ({ frames := 2, cells := 0, slots := 0, locals := 51 } : Room) (dC, dI) vwCl (tyl ca) (wc ca ad) S [.ref (ad 0), .int (nI pp)] (fun r S2 => r = bI (gfOk S pp) ∧ S2 = if gfOk S pp = true then gfS S pp else S) := by
  refine ct_ofI (by decide) (Nat.le_of_ble_eq_true rfl) ?_
  intro p e s m below meth c A ls hx hb hr hml hts hown hlocks hK hA hw hl
  have hl : lv_has ls 2 [(0, .ref (ad 0)), (1, .int (nI pp))] := hl
  refine lv_aload_n hx hb dX5_goFirst_0 rfl (lv_at hl 0 rfl) ?_
  refine wo_get hx hb hts inX5 hown hK hw 0 rfl rfl 3 (by decide) (hts _ wd_169) (fun _ h9 => h9) rfl dX5_goFirst_1 ?_
  refine wo_get hx hb hts inX2 hown hK hw 4 rfl rfl 0 (by decide) (hts _ wd_136) (fun _ h9 => h9) rfl dX5_goFirst_4 ?_
  refine lv_iload_n hx hb dX5_goFirst_7 rfl (lv_at hl 1 rfl) ?_
  refine wo_iald hx hb hK hw 34 0 rfl rfl pp rfl (by first | assumption | omega) (by decide) dX5_goFirst_8 ?_
  refine lv_if_eq (tgt := 45) hx hb dX5_goFirst_9 (by decide) (fun c_1 => ?_) (fun c_1 => ?_)
  · skip
    refine lv_iconst (v := nI 0) hx hb dX5_goFirst_45 (by decide) ?_
    exact ct_zret (S := S) (v := nI 0) hx hb hr hlocks hK (by first | decide | exact nb_z _) hw (⟨by simp only [bI, gfOk, c_1, decide_true, decide_false, Bool.not_true, Bool.not_false, Bool.true_and, Bool.and_true, Bool.false_and, Bool.and_false, Bool.or_true, Bool.true_or, Bool.or_false, Bool.false_or, Bool.false_eq_true, Bool.true_eq_false, if_true, if_false, ↓reduceIte], by simp only [gfOk, c_1, decide_true, decide_false, Bool.not_true, Bool.not_false, Bool.true_and, Bool.and_true, Bool.false_and, Bool.and_false, Bool.or_true, Bool.true_or, Bool.or_false, Bool.false_or, Bool.false_eq_true, Bool.true_eq_false, if_true, if_false, ↓reduceIte]⟩) dX5_goFirst_46
  · skip
    obtain ⟨kq, b9, hk9, hb9, e34, e36⟩ := QW_first hq c_1
    have hge := gfS_eq e34 hk9 e36 hb9
    refine lv_aload_n hx hb dX5_goFirst_12 rfl (lv_at hl 0 rfl) ?_
    refine wo_get hx hb hts inX5 hown hK hw 0 rfl rfl 1 (by decide) (hts _ wd_167) (fun _ h9 => h9) rfl dX5_goFirst_13 ?_
    refine lv_aload_n hx hb dX5_goFirst_16 rfl (lv_at hl 0 rfl) ?_
    refine wo_get hx hb hts inX5 hown hK hw 0 rfl rfl 3 (by decide) (hts _ wd_169) (fun _ h9 => h9) rfl dX5_goFirst_17 ?_
    refine wo_get hx hb hts inX2 hown hK hw 4 rfl rfl 1 (by decide) (hts _ wd_138) (fun _ h9 => h9) rfl dX5_goFirst_20 ?_
    refine lv_iload_n hx hb dX5_goFirst_23 rfl (lv_at hl 1 rfl) ?_
    refine wo_aald hx hb hK hw 35 4 rfl rfl pp rfl (by first | assumption | omega) (by decide) (if_pos (by first | assumption | omega)) dX5_goFirst_24 ?_
    refine lv_iconst (v := nI 0) hx hb dX5_goFirst_25 (by decide) ?_
    refine wo_iald hx hb hK hw (36 + pp) 0 (rw_35 ca ad _ pp (by first | assumption | omega)) rfl 0 rfl (by first | assumption | omega) (by decide) dX5_goFirst_26 ?_
    refine tp_i (y := nI b9) (e36) ?_
    refine lv_iload_n hx hb dX5_goFirst_27 rfl (lv_at hl 1 rfl) ?_
    refine lv_aload_n hx hb dX5_goFirst_28 rfl (lv_at hl 0 rfl) ?_
    refine wo_get hx hb hts inX5 hown hK hw 0 rfl rfl 3 (by decide) (hts _ wd_169) (fun _ h9 => h9) rfl dX5_goFirst_29 ?_
    refine wo_get hx hb hts inX2 hown hK hw 4 rfl rfl 2 (by decide) (hts _ wd_140) (fun _ h9 => h9) rfl dX5_goFirst_32 ?_
    refine lv_iload_n hx hb dX5_goFirst_35 rfl (lv_at hl 1 rfl) ?_
    refine wo_aald hx hb hK hw 42 3 rfl rfl pp rfl (by first | assumption | omega) (by decide) (if_pos (by first | assumption | omega)) dX5_goFirst_36 ?_
    refine lv_iconst (v := nI 0) hx hb dX5_goFirst_37 (by decide) ?_
    refine wo_lald hx hb hK hw (43 + pp) 1 (rw_42 ca ad _ pp (by first | assumption | omega)) rfl 0 rfl (by first | assumption | omega) (by decide) dX5_goFirst_38 ?_
    refine wo_vI (As := [.int (nI b9), .int (nI pp), .long (S.2 (43 + pp) 0)]) (rest := []) (kX0_move l dC dI ca ad S b9 pp (S.2 (43 + pp) 0) (by first | assumption | omega) (by first | assumption | omega)) ⟨hx, hb, hml, hown, hts⟩ (cwV 3 hts (wa_gV wd_214 wd_215 wd_216 wd_4 wd_217) rfl rfl rfl (by decide +kernel) ⟨Nat.le_of_ble_eq_true rfl, Nat.le_of_ble_eq_true rfl⟩) hK hw hA 2 rfl rfl rfl rfl hl.1 rfl (Nat.le_of_ble_eq_true rfl) dX5_goFirst_39 ⟨Nat.zero_le _, Nat.zero_le _⟩ (fun r_2 S_2 H locs hp_2 hw => ?_)
    have e9 := hp_2.1.symm
    subst e9
    have e9 := hp_2.2.symm
    subst e9
    refine lv_if_ne (tgt := 47) hx hb dX5_goFirst_42 (by decide) (fun c_3 => ?_) (fun c_3 => ?_)
    · skip
      have c_3 : mvOk S b9 pp (S.2 (43 + pp) 0) = true := nb_1 c_3
      rw [if_pos c_3] at hw
      refine lv_aload_n hx hb dX5_goFirst_47 rfl (lv_at hl 0 rfl) ?_
      refine wo_get hx hb hts inX5 hown hK hw 0 rfl rfl 3 (by decide) (hts _ wd_169) (fun _ h9 => h9) rfl dX5_goFirst_48 ?_
      refine lv_iload_n hx hb dX5_goFirst_51 rfl (lv_at hl 1 rfl) ?_
      refine wo_vV (As := [.int (nI pp)]) (rest := []) (kX2_removeFirst l dC dI ca ad (mvS S b9 pp (S.2 (43 + pp) 0)) pp kq (by first | assumption | omega) hk9 e34) ⟨hx, hb, hml, hown, hts⟩ (cwV 1 hts (wa_gV wd_285 wd_286 wd_287 wd_6 wd_288) rfl rfl rfl (by decide +kernel) ⟨Nat.le_of_ble_eq_true rfl, Nat.le_of_ble_eq_true rfl⟩) hK hw hA 4 rfl rfl rfl rfl hl.1 rfl (Nat.le_of_ble_eq_true rfl) dX5_goFirst_52 ⟨Nat.zero_le _, Nat.zero_le _⟩ (fun S_4 H locs hp_4 hw => ?_)
      have e9 := hp_4.symm
      subst e9
      refine lv_iconst (v := nI 1) hx hb dX5_goFirst_55 (by decide) ?_
      exact ct_zret (S := qrem (mvS S b9 pp (S.2 (43 + pp) 0)) pp kq) (v := nI 1) hx hb hr hlocks hK (by first | decide | exact nb_z _) hw (⟨by simp only [bI, gfOk, hge.2, c_1, c_3, decide_true, decide_false, Bool.not_true, Bool.not_false, Bool.true_and, Bool.and_true, Bool.false_and, Bool.and_false, Bool.or_true, Bool.true_or, Bool.or_false, Bool.false_or, Bool.false_eq_true, Bool.true_eq_false, if_true, if_false, ↓reduceIte], by simp only [gfOk, hge.2, hge.1, c_1, c_3, decide_true, decide_false, Bool.not_true, Bool.not_false, Bool.true_and, Bool.and_true, Bool.false_and, Bool.and_false, Bool.or_true, Bool.true_or, Bool.or_false, Bool.false_or, Bool.false_eq_true, Bool.true_eq_false, if_true, if_false, ↓reduceIte]⟩) dX5_goFirst_56
    · skip
      have c_3 : mvOk S b9 pp (S.2 (43 + pp) 0) = false := nb_0 c_3
      rw [if_neg (by rw [c_3]; decide)] at hw
      refine lv_iconst (v := nI 0) hx hb dX5_goFirst_45 (by decide) ?_
      exact ct_zret (S := S) (v := nI 0) hx hb hr hlocks hK (by first | decide | exact nb_z _) hw (⟨by simp only [bI, gfOk, hge.2, c_1, c_3, decide_true, decide_false, Bool.not_true, Bool.not_false, Bool.true_and, Bool.and_true, Bool.false_and, Bool.and_false, Bool.or_true, Bool.true_or, Bool.or_false, Bool.false_or, Bool.false_eq_true, Bool.true_eq_false, if_true, if_false, ↓reduceIte], by simp only [gfOk, hge.2, hge.1, c_1, c_3, decide_true, decide_false, Bool.not_true, Bool.not_false, Bool.true_and, Bool.and_true, Bool.false_and, Bool.and_false, Bool.or_true, Bool.true_or, Bool.or_false, Bool.false_or, Bool.false_eq_true, Bool.true_eq_false, if_true, if_false, ↓reduceIte]⟩) dX5_goFirst_46

set_option maxHeartbeats 4000000 in
set_option maxRecDepth 100000 in
theorem kX5_receive (l : Launch) (dC : Nat → ClassId) (dI : Nat → Nat → Nat) (ca : Nat → ClassId) (ad : Nat → Nat) (S : sSt) (bb : Nat) (sd : Nat) (pp : Nat) (vv : Int64) (nb : Nat) (nr : Nat) (hb6 : bb < 6) (hs2 : sd < 2) (hp6 : pp < 6) (hri : RI nb nr S) : ct_V l yX5_receive (Cond.code yX5_receive cX5_receive 7 none :: wa_T) ({ frames := 3, cells := 0, slots := 0, locals := 72 } : Room) (dC, dI) vwCl (tyl ca) (wc ca ad) S [.ref (ad 0), .int (nI bb), .int (nI sd), .int (nI pp), .long vv] (fun S2 => S2 = rcvF S bb sd pp vv) := by
  refine ct_ofV (by decide) (Nat.le_of_ble_eq_true rfl) ?_
  intro p e s m below meth c A ls hx hb hr hml hts hown hlocks hK hA hw hl
  have hl : lv_has ls 7 [(0, .ref (ad 0)), (1, .int (nI bb)), (2, .int (nI sd)), (3, .int (nI pp)), (4, .long vv)] := hl
  refine lv_lload hx hb dX5_receive_0 (lv_at hl 4 rfl) ?_
  refine lv_lconst (v := 0) hx hb dX5_receive_2 (by decide) ?_
  refine lc_gt (tgt := 8) hx hb dX5_receive_3 dX5_receive_4 (by decide) (fun c_1 => ?_) (fun c_1 => ?_)
  · skip
    have hv := c_1
    refine lv_aload_n hx hb dX5_receive_8 rfl (lv_at hl 0 rfl) ?_
    refine wo_get hx hb hts inX5 hown hK hw 0 rfl rfl 1 (by decide) (hts _ wd_167) (fun _ h9 => h9) rfl dX5_receive_9 ?_
    refine lv_iload_n hx hb dX5_receive_12 rfl (lv_at hl 1 rfl) ?_
    refine lv_iload_n hx hb dX5_receive_13 rfl (lv_at hl 2 rfl) ?_
    refine lv_iload_n hx hb dX5_receive_14 rfl (lv_at hl 3 rfl) ?_
    refine lv_lload hx hb dX5_receive_15 (lv_at hl 4 rfl) ?_
    refine wo_vV (As := [.int (nI bb), .int (nI sd), .int (nI pp), .long vv]) (rest := []) (kX0_addToShare l dC dI ca ad S bb sd pp vv (by first | assumption | omega) (by first | assumption | omega) (by first | assumption | omega)) ⟨hx, hb, hml, hown, hts⟩ (cwV 4 hts (wa_gV wd_249 wd_226 wd_227 wd_4 wd_228) rfl rfl rfl (by decide +kernel) ⟨Nat.le_of_ble_eq_true rfl, Nat.le_of_ble_eq_true rfl⟩) hK hw hA 2 rfl rfl rfl rfl hl.1 rfl (Nat.le_of_ble_eq_true rfl) dX5_receive_17 ⟨Nat.zero_le _, Nat.zero_le _⟩ (fun S_2 H locs hp_2 hw => ?_)
    have e9 := hp_2.symm
    subst e9
    refine lv_iconst (v := nI 0) hx hb dX5_receive_20 (by decide) ?_
    refine lv_istore (lv' := [(6, .int (nI 0)), (0, .ref (ad 0)), (1, .int (nI bb)), (2, .int (nI sd)), (3, .int (nI pp)), (4, .long vv)]) hx hb dX5_receive_21 hl (by decide) rfl (fun ls hl => ?_)
    have lp_23 : ∀ (n : Nat) (i : Nat) (X : sSt), i ≤ 8 → 9 ≤ i + n → RI nb nr X → rcvL pp (8 - i) X = rcvL pp 8 (addSh S (bb * 2 + sd) pp vv) → ∀ (H : Heap) (locs : List Loc) (ls : Array Slot), wo_w (dC, dI) vwCl A s.heap (wc ca ad X) H locs → lv_has ls 7 [(0, .ref (ad 0)), (3, .int (nI pp)), (6, .int (nI i))] → W p l e ({ frames := 3, cells := 0, slots := 0, locals := 72 } : Room) s m ([.ref (ad 0), .int (nI bb), .int (nI sd), .int (nI pp), .long vv] : List Value).toArray below meth c H locs 0 0 (MQ below (va_Qv (fun S2 => S2 = rcvF S bb sd pp vv) (ct_B (dC, dI) vwCl (tyl ca) (wc ca ad) A) A) ([.ref (ad 0), .int (nI bb), .int (nI sd), .int (nI pp), .long vv] : List Value).toArray s 0 0 A) (F0 m 23 ls []) := by
      intro n
      induction n with
      | zero =>
        intro i X hi hn hx9 hrem
        exfalso
        omega
      | succ n ih_23 =>
        intro i X hi hn hx9 hrem H locs ls hw hl
        refine lv_iload hx hb dX5_receive_23 (lv_at hl 2 rfl) ?_
        refine lv_bipush (v := nI 8) hx hb dX5_receive_25 (by decide) ?_
        refine lv_icmp_ge (tgt := 54) hx hb dX5_receive_27 (by decide) (fun c_3 => ?_) (fun c_3 => ?_)
        · skip
          have c_3 : 8 ≤ i := (nI_leI (a := 8) (b := i) (by omega) (by omega)).mp c_3
          have hX := rcvL_end hrem (by omega)
          exact ct_vret (S := X) hx hb hr hlocks hK hw (by rw [rcvF, if_pos hv, ← hX]) dX5_receive_54
        · skip
          have c_3 : ¬ (8 ≤ i) := fun h9 => c_3 ((nI_leI (a := 8) (b := i) (by omega) (by omega)).mpr h9)
          refine lv_aload_n hx hb dX5_receive_30 rfl (lv_at hl 0 rfl) ?_
          refine lv_iload_n hx hb dX5_receive_31 rfl (lv_at hl 1 rfl) ?_
          refine wo_vI (As := [.int (nI pp)]) (rest := []) (kX5_goFirst l dC dI ca ad X pp (by first | assumption | omega) (hx9.1 pp (by omega))) ⟨hx, hb, hml, hown, hts⟩ (cwV 1 hts (wa_gV wd_281 wd_283 ws_4 wd_1 wd_284) rfl rfl rfl (by decide +kernel) ⟨Nat.le_of_ble_eq_true rfl, Nat.le_of_ble_eq_true rfl⟩) hK hw hA 0 rfl rfl rfl rfl hl.1 rfl (Nat.le_of_ble_eq_true rfl) dX5_receive_32 ⟨Nat.zero_le _, Nat.zero_le _⟩ (fun r_4 S_4 H locs hp_4 hw => ?_)
          have e9 := hp_4.1.symm
          subst e9
          have e9 := hp_4.2.symm
          subst e9
          refine lv_if_eq (tgt := 54) hx hb dX5_receive_35 (by decide) (fun c_5 => ?_) (fun c_5 => ?_)
          · skip
            have c_5 : gfOk X pp = false := nb_0 c_5
            rw [if_neg (by rw [c_5]; decide)] at hw
            have hX := rcvL_stop hrem c_5
            exact ct_vret (S := X) hx hb hr hlocks hK hw (by rw [rcvF, if_pos hv, ← hX]) dX5_receive_54
          · skip
            have c_5 : gfOk X pp = true := nb_1 c_5
            rw [if_pos c_5] at hw
            have hgf := c_5
            refine lv_aload_n hx hb dX5_receive_38 rfl (lv_at hl 0 rfl) ?_
            refine lv_dup hx hb dX5_receive_39 rfl ?_
            refine wo_get hx hb hts inX5 hown hK hw 0 rfl rfl 5 (by decide) (hts _ wd_171) (fun _ h9 => h9) rfl dX5_receive_40 ?_
            refine lv_iconst (v := nI 1) hx hb dX5_receive_43 (by decide) ?_
            refine lv_iadd hx hb dX5_receive_44 ?_
            refine wo_put (ty := .int) (v := .int (((gfS X pp).1 0 5) + (nI 1))) hx hb hts inX5 tyX5 tyX5_ok nmX5 hown hK hw 0 rfl rfl 5 (by decide) (hts _ wd_171) (fun _ h9 => h9) rfl (by decide +kernel) rfl rfl (Nat.le_of_ble_eq_true rfl) (sf_0_5 ca ad (gfS X pp) (((gfS X pp).1 0 5) + (nI 1))) dX5_receive_45 (fun H locs hw => ?_)
            refine lv_iinc (v := nI (i + 1)) (lv' := [(6, .int (nI (i + 1))), (0, .ref (ad 0)), (3, .int (nI pp))]) hx hb dX5_receive_48 hl (k := 2) rfl (nI_inc _) (by decide) rfl (fun ls hl => ?_)
            refine lv_goto (tgt := 23) hx hb dX5_receive_51 (by decide) ?_
            have e9 : sI (gfS X pp) 0 5 (((gfS X pp).1 0 5) + (nI 1)) = (dnS (gfS X pp)) := rfl
            rw [e9] at hw
            exact ih_23 (i + 1) (dnS (gfS X pp)) (by omega) (by omega) (RI_dn (RI_gf (by omega) hx9 hgf)) (rcvL_step hrem (by omega) hgf) _ _ _ hw (lv_sub hl [1, 2, 0] rfl)
    exact lp_23 9 0 (addSh S (bb * 2 + sd) pp vv) (by omega) (by omega) (RI_eq hri rfl) rfl _ _ _ hw (lv_sub hl [1, 4, 0] rfl)
  · skip
    exact ct_vret (S := S) hx hb hr hlocks hK hw (by rw [rcvF, if_neg c_1]) dX5_receive_7

set_option maxHeartbeats 4000000 in
set_option maxRecDepth 100000 in
theorem kX5_useOwnWeights (l : Launch) (dC : Nat → ClassId) (dI : Nat → Nat → Nat) (ca : Nat → ClassId) (ad : Nat → Nat) (S : sSt)  : ct_V l yX5_useOwnWeights (Cond.code yX5_useOwnWeights cX5_useOwnWeights 2 none :: wa_T) ({ frames := 2, cells := 0, slots := 0, locals := 41 } : Room) (dC, dI) vwCl (tyl ca) (wc ca ad) S [.ref (ad 0)] (fun S2 => S2 = uow S 6) := by
  refine ct_ofV (by decide) (Nat.le_of_ble_eq_true rfl) ?_
  intro p e s m below meth c A ls hx hb hr hml hts hown hlocks hK hA hw hl
  have hl : lv_has ls 2 [(0, .ref (ad 0))] := hl
  refine lv_iconst (v := nI 0) hx hb dX5_useOwnWeights_0 (by decide) ?_
  refine lv_istore_n (lv' := [(1, .int (nI 0)), (0, .ref (ad 0))]) hx hb dX5_useOwnWeights_1 rfl hl (by decide) rfl (fun ls hl => ?_)
  have lp_2 : ∀ (n : Nat) (i : Nat), i ≤ 6 → 7 ≤ i + n → ∀ (H : Heap) (locs : List Loc) (ls : Array Slot), wo_w (dC, dI) vwCl A s.heap (wc ca ad (uow S i)) H locs → lv_has ls 2 [(0, .ref (ad 0)), (1, .int (nI i))] → W p l e ({ frames := 2, cells := 0, slots := 0, locals := 41 } : Room) s m ([.ref (ad 0)] : List Value).toArray below meth c H locs 0 0 (MQ below (va_Qv (fun S2 => S2 = uow S 6) (ct_B (dC, dI) vwCl (tyl ca) (wc ca ad) A) A) ([.ref (ad 0)] : List Value).toArray s 0 0 A) (F0 m 2 ls []) := by
    intro n
    induction n with
    | zero =>
      intro i hi hn
      exfalso
      omega
    | succ n ih_2 =>
      intro i hi hn H locs ls hw hl
      refine lv_iload_n hx hb dX5_useOwnWeights_2 rfl (lv_at hl 1 rfl) ?_
      refine lv_bipush (v := nI 6) hx hb dX5_useOwnWeights_3 (by decide) ?_
      refine lv_icmp_ge (tgt := 47) hx hb dX5_useOwnWeights_5 (by decide) (fun c_1 => ?_) (fun c_1 => ?_)
      · skip
        have c_1 : 6 ≤ i := (nI_leI (a := 6) (b := i) (by omega) (by omega)).mp c_1
        obtain rfl : 6 = i := by omega
        exact ct_vret (S := uow S 6) hx hb hr hlocks hK hw (rfl) dX5_useOwnWeights_47
      · skip
        have c_1 : ¬ (6 ≤ i) := fun h9 => c_1 ((nI_leI (a := 6) (b := i) (by omega) (by omega)).mpr h9)
        refine lv_aload_n hx hb dX5_useOwnWeights_8 rfl (lv_at hl 0 rfl) ?_
        refine wo_get hx hb hts inX5 hown hK hw 0 rfl rfl 4 (by decide) (hts _ wd_170) (fun _ h9 => h9) rfl dX5_useOwnWeights_9 ?_
        refine wo_get hx hb hts inX4 hown hK hw 5 rfl rfl 0 (by decide) (hts _ wd_155) (fun _ h9 => h9) rfl dX5_useOwnWeights_12 ?_
        refine lv_iload_n hx hb dX5_useOwnWeights_15 rfl (lv_at hl 1 rfl) ?_
        refine lv_aload_n hx hb dX5_useOwnWeights_16 rfl (lv_at hl 0 rfl) ?_
        refine wo_get hx hb hts inX5 hown hK hw 0 rfl rfl 0 (by decide) (hts _ wd_166) (fun _ h9 => h9) rfl dX5_useOwnWeights_17 ?_
        refine lv_iload_n hx hb dX5_useOwnWeights_20 rfl (lv_at hl 1 rfl) ?_
        refine wo_vI (As := [.int (nI i)]) (rest := [.int (nI i), .ref (ad 49)]) (kX1_isWell l dC dI ca ad (uow S i) (nI i)) ⟨hx, hb, hml, hown, hts⟩ (cwV 1 hts (wa_gV wd_192 wd_193 wd_194 wd_2 wd_195) rfl rfl rfl (by decide +kernel) ⟨Nat.le_of_ble_eq_true rfl, Nat.le_of_ble_eq_true rfl⟩) hK hw hA 1 rfl rfl rfl rfl hl.1 rfl (Nat.le_of_ble_eq_true rfl) dX5_useOwnWeights_21 ⟨Nat.zero_le _, Nat.zero_le _⟩ (fun r_2 S_2 H locs hp_2 hw => ?_)
        have e9 := hp_2.1.symm
        subst e9
        have e9 := hp_2.2.symm
        subst e9
        refine lv_if_eq (tgt := 39) hx hb dX5_useOwnWeights_24 (by decide) (fun c_3 => ?_) (fun c_3 => ?_)
        · skip
          have c_3 : wl (uow S i) (nI i) = false := nb_0 c_3
          refine lv_lconst (v := 0) hx hb dX5_useOwnWeights_39 (by decide) ?_
          refine wo_last hx hb hK hw 49 1 rfl rfl i rfl (by first | assumption | omega) (by decide) (se_49 ca ad (uow S i) i 0) dX5_useOwnWeights_40 (fun H locs hw => ?_)
          refine lv_iinc (v := nI (i + 1)) (lv' := [(1, .int (nI (i + 1))), (0, .ref (ad 0))]) hx hb dX5_useOwnWeights_41 hl (k := 1) rfl (nI_inc _) (by decide) rfl (fun ls hl => ?_)
          refine lv_goto (tgt := 2) hx hb dX5_useOwnWeights_44 (by decide) ?_
          have e9 : sL (uow S i) 49 i 0 = uow S (i + 1) := by first | rfl | (simp only [uow, c_1, c_3, decide_true, decide_false, Bool.not_true, Bool.not_false, Bool.true_and, Bool.and_true, Bool.false_and, Bool.and_false, Bool.or_true, Bool.true_or, Bool.or_false, Bool.false_or, Bool.false_eq_true, Bool.true_eq_false, if_true, if_false, ↓reduceIte]; done)
          rw [e9] at hw
          exact ih_2 (i + 1) (by omega) (by omega) _ _ _ hw (lv_sub hl [1, 0] rfl)
        · skip
          have c_3 : wl (uow S i) (nI i) = true := nb_1 c_3
          refine lv_aload_n hx hb dX5_useOwnWeights_27 rfl (lv_at hl 0 rfl) ?_
          refine wo_get hx hb hts inX5 hown hK hw 0 rfl rfl 0 (by decide) (hts _ wd_166) (fun _ h9 => h9) rfl dX5_useOwnWeights_28 ?_
          refine wo_get hx hb hts inX1 hown hK hw 1 rfl rfl 0 (by decide) (hts _ wd_36) (fun _ h9 => h9) rfl dX5_useOwnWeights_31 ?_
          refine lv_iload_n hx hb dX5_useOwnWeights_34 rfl (lv_at hl 1 rfl) ?_
          refine wo_lald hx hb hK hw 6 1 rfl rfl i rfl (by first | assumption | omega) (by decide) dX5_useOwnWeights_35 ?_
          refine lv_goto (tgt := 40) hx hb dX5_useOwnWeights_36 (by decide) ?_
          refine wo_last hx hb hK hw 49 1 rfl rfl i rfl (by first | assumption | omega) (by decide) (se_49 ca ad (uow S i) i ((uow S i).2 6 i)) dX5_useOwnWeights_40 (fun H locs hw => ?_)
          refine lv_iinc (v := nI (i + 1)) (lv' := [(1, .int (nI (i + 1))), (0, .ref (ad 0))]) hx hb dX5_useOwnWeights_41 hl (k := 1) rfl (nI_inc _) (by decide) rfl (fun ls hl => ?_)
          refine lv_goto (tgt := 2) hx hb dX5_useOwnWeights_44 (by decide) ?_
          have e9 : sL (uow S i) 49 i ((uow S i).2 6 i) = uow S (i + 1) := by first | rfl | (simp only [uow, c_1, c_3, decide_true, decide_false, Bool.not_true, Bool.not_false, Bool.true_and, Bool.and_true, Bool.false_and, Bool.and_false, Bool.or_true, Bool.true_or, Bool.or_false, Bool.false_or, Bool.false_eq_true, Bool.true_eq_false, if_true, if_false, ↓reduceIte]; done)
          rw [e9] at hw
          exact ih_2 (i + 1) (by omega) (by omega) _ _ _ hw (lv_sub hl [1, 0] rfl)
  have e9 : S = uow S 0 := by first | rfl | (simp only [uow, decide_true, decide_false, Bool.not_true, Bool.not_false, Bool.true_and, Bool.and_true, Bool.false_and, Bool.and_false, Bool.or_true, Bool.true_or, Bool.or_false, Bool.false_or, Bool.false_eq_true, Bool.true_eq_false, if_true, if_false, ↓reduceIte]; done)
  rw [e9] at hw
  exact lp_2 7 0 (by omega) (by omega) _ _ _ hw (lv_sub hl [1, 0] rfl)

set_option maxHeartbeats 4000000 in
set_option maxRecDepth 100000 in
theorem kX5_useEqualWeights (l : Launch) (dC : Nat → ClassId) (dI : Nat → Nat → Nat) (ca : Nat → ClassId) (ad : Nat → Nat) (S : sSt)  : ct_V l yX5_useEqualWeights (Cond.code yX5_useEqualWeights cX5_useEqualWeights 2 none :: wa_T) ({ frames := 2, cells := 0, slots := 0, locals := 41 } : Room) (dC, dI) vwCl (tyl ca) (wc ca ad) S [.ref (ad 0)] (fun S2 => S2 = uew S 6) := by
  refine ct_ofV (by decide) (Nat.le_of_ble_eq_true rfl) ?_
  intro p e s m below meth c A ls hx hb hr hml hts hown hlocks hK hA hw hl
  have hl : lv_has ls 2 [(0, .ref (ad 0))] := hl
  refine lv_iconst (v := nI 0) hx hb dX5_useEqualWeights_0 (by decide) ?_
  refine lv_istore_n (lv' := [(1, .int (nI 0)), (0, .ref (ad 0))]) hx hb dX5_useEqualWeights_1 rfl hl (by decide) rfl (fun ls hl => ?_)
  have lp_2 : ∀ (n : Nat) (i : Nat), i ≤ 6 → 7 ≤ i + n → ∀ (H : Heap) (locs : List Loc) (ls : Array Slot), wo_w (dC, dI) vwCl A s.heap (wc ca ad (uew S i)) H locs → lv_has ls 2 [(0, .ref (ad 0)), (1, .int (nI i))] → W p l e ({ frames := 2, cells := 0, slots := 0, locals := 41 } : Room) s m ([.ref (ad 0)] : List Value).toArray below meth c H locs 0 0 (MQ below (va_Qv (fun S2 => S2 = uew S 6) (ct_B (dC, dI) vwCl (tyl ca) (wc ca ad) A) A) ([.ref (ad 0)] : List Value).toArray s 0 0 A) (F0 m 2 ls []) := by
    intro n
    induction n with
    | zero =>
      intro i hi hn
      exfalso
      omega
    | succ n ih_2 =>
      intro i hi hn H locs ls hw hl
      refine lv_iload_n hx hb dX5_useEqualWeights_2 rfl (lv_at hl 1 rfl) ?_
      refine lv_bipush (v := nI 6) hx hb dX5_useEqualWeights_3 (by decide) ?_
      refine lv_icmp_ge (tgt := 39) hx hb dX5_useEqualWeights_5 (by decide) (fun c_1 => ?_) (fun c_1 => ?_)
      · skip
        have c_1 : 6 ≤ i := (nI_leI (a := 6) (b := i) (by omega) (by omega)).mp c_1
        obtain rfl : 6 = i := by omega
        exact ct_vret (S := uew S 6) hx hb hr hlocks hK hw (rfl) dX5_useEqualWeights_39
      · skip
        have c_1 : ¬ (6 ≤ i) := fun h9 => c_1 ((nI_leI (a := 6) (b := i) (by omega) (by omega)).mpr h9)
        refine lv_aload_n hx hb dX5_useEqualWeights_8 rfl (lv_at hl 0 rfl) ?_
        refine wo_get hx hb hts inX5 hown hK hw 0 rfl rfl 4 (by decide) (hts _ wd_170) (fun _ h9 => h9) rfl dX5_useEqualWeights_9 ?_
        refine wo_get hx hb hts inX4 hown hK hw 5 rfl rfl 0 (by decide) (hts _ wd_155) (fun _ h9 => h9) rfl dX5_useEqualWeights_12 ?_
        refine lv_iload_n hx hb dX5_useEqualWeights_15 rfl (lv_at hl 1 rfl) ?_
        refine lv_aload_n hx hb dX5_useEqualWeights_16 rfl (lv_at hl 0 rfl) ?_
        refine wo_get hx hb hts inX5 hown hK hw 0 rfl rfl 0 (by decide) (hts _ wd_166) (fun _ h9 => h9) rfl dX5_useEqualWeights_17 ?_
        refine lv_iload_n hx hb dX5_useEqualWeights_20 rfl (lv_at hl 1 rfl) ?_
        refine wo_vI (As := [.int (nI i)]) (rest := [.int (nI i), .ref (ad 49)]) (kX1_isWell l dC dI ca ad (uew S i) (nI i)) ⟨hx, hb, hml, hown, hts⟩ (cwV 1 hts (wa_gV wd_192 wd_193 wd_194 wd_2 wd_195) rfl rfl rfl (by decide +kernel) ⟨Nat.le_of_ble_eq_true rfl, Nat.le_of_ble_eq_true rfl⟩) hK hw hA 1 rfl rfl rfl rfl hl.1 rfl (Nat.le_of_ble_eq_true rfl) dX5_useEqualWeights_21 ⟨Nat.zero_le _, Nat.zero_le _⟩ (fun r_2 S_2 H locs hp_2 hw => ?_)
        have e9 := hp_2.1.symm
        subst e9
        have e9 := hp_2.2.symm
        subst e9
        refine lv_if_eq (tgt := 31) hx hb dX5_useEqualWeights_24 (by decide) (fun c_3 => ?_) (fun c_3 => ?_)
        · skip
          have c_3 : wl (uew S i) (nI i) = false := nb_0 c_3
          refine lv_lconst (v := 0) hx hb dX5_useEqualWeights_31 (by decide) ?_
          refine wo_last hx hb hK hw 49 1 rfl rfl i rfl (by first | assumption | omega) (by decide) (se_49 ca ad (uew S i) i 0) dX5_useEqualWeights_32 (fun H locs hw => ?_)
          refine lv_iinc (v := nI (i + 1)) (lv' := [(1, .int (nI (i + 1))), (0, .ref (ad 0))]) hx hb dX5_useEqualWeights_33 hl (k := 1) rfl (nI_inc _) (by decide) rfl (fun ls hl => ?_)
          refine lv_goto (tgt := 2) hx hb dX5_useEqualWeights_36 (by decide) ?_
          have e9 : sL (uew S i) 49 i 0 = uew S (i + 1) := by first | rfl | (simp only [uew, c_1, c_3, decide_true, decide_false, Bool.not_true, Bool.not_false, Bool.true_and, Bool.and_true, Bool.false_and, Bool.and_false, Bool.or_true, Bool.true_or, Bool.or_false, Bool.false_or, Bool.false_eq_true, Bool.true_eq_false, if_true, if_false, ↓reduceIte]; done)
          rw [e9] at hw
          exact ih_2 (i + 1) (by omega) (by omega) _ _ _ hw (lv_sub hl [1, 0] rfl)
        · skip
          have c_3 : wl (uew S i) (nI i) = true := nb_1 c_3
          refine lv_lconst (v := 1) hx hb dX5_useEqualWeights_27 (by decide) ?_
          refine lv_goto (tgt := 32) hx hb dX5_useEqualWeights_28 (by decide) ?_
          refine wo_last hx hb hK hw 49 1 rfl rfl i rfl (by first | assumption | omega) (by decide) (se_49 ca ad (uew S i) i 1) dX5_useEqualWeights_32 (fun H locs hw => ?_)
          refine lv_iinc (v := nI (i + 1)) (lv' := [(1, .int (nI (i + 1))), (0, .ref (ad 0))]) hx hb dX5_useEqualWeights_33 hl (k := 1) rfl (nI_inc _) (by decide) rfl (fun ls hl => ?_)
          refine lv_goto (tgt := 2) hx hb dX5_useEqualWeights_36 (by decide) ?_
          have e9 : sL (uew S i) 49 i 1 = uew S (i + 1) := by first | rfl | (simp only [uew, c_1, c_3, decide_true, decide_false, Bool.not_true, Bool.not_false, Bool.true_and, Bool.and_true, Bool.false_and, Bool.and_false, Bool.or_true, Bool.true_or, Bool.or_false, Bool.false_or, Bool.false_eq_true, Bool.true_eq_false, if_true, if_false, ↓reduceIte]; done)
          rw [e9] at hw
          exact ih_2 (i + 1) (by omega) (by omega) _ _ _ hw (lv_sub hl [1, 0] rfl)
  have e9 : S = uew S 0 := by first | rfl | (simp only [uew, decide_true, decide_false, Bool.not_true, Bool.not_false, Bool.true_and, Bool.and_true, Bool.false_and, Bool.and_false, Bool.or_true, Bool.true_or, Bool.or_false, Bool.false_or, Bool.false_eq_true, Bool.true_eq_false, if_true, if_false, ↓reduceIte]; done)
  rw [e9] at hw
  exact lp_2 7 0 (by omega) (by omega) _ _ _ hw (lv_sub hl [1, 0] rfl)

set_option maxHeartbeats 4000000 in
set_option maxRecDepth 100000 in
theorem kX5_sharesOfThose (l : Launch) (dC : Nat → ClassId) (dI : Nat → Nat → Nat) (ca : Nat → ClassId) (ad : Nat → Nat) (S : sSt) (bb : Nat) (sd : Nat) (b0 : Bool) (hb6 : bb < 6) (hs2 : sd < 2) : ct_L l yX5_sharesOfThose (Cond.code yX5_sharesOfThose cX5_sharesOfThose 7 (some .long) :: wa_T) ({ frames := 2, cells := 0, slots := 0, locals := 41 } : Room) (dC, dI) vwCl (tyl ca) (wc ca ad) S [.ref (ad 0), .int (nI bb), .int (nI sd), .int (bI b0)] (fun r S2 => r = shT S (bb * 2 + sd) b0 6 ∧ S2 = S) := by
  refine ct_ofL (by decide) (Nat.le_of_ble_eq_true rfl) ?_
  intro p e s m below meth c A ls hx hb hr hml hts hown hlocks hK hA hw hl
  have hl : lv_has ls 7 [(0, .ref (ad 0)), (1, .int (nI bb)), (2, .int (nI sd)), (3, .int (bI b0))] := hl
  refine lv_lconst (v := 0) hx hb dX5_sharesOfThose_0 (by decide) ?_
  refine lv_lstore (lv' := [(4, .long 0), (0, .ref (ad 0)), (1, .int (nI bb)), (2, .int (nI sd)), (3, .int (bI b0))]) hx hb dX5_sharesOfThose_1 hl (by decide) rfl (fun ls hl => ?_)
  refine lv_iconst (v := nI 0) hx hb dX5_sharesOfThose_3 (by decide) ?_
  refine lv_istore (lv' := [(6, .int (nI 0)), (4, .long 0), (0, .ref (ad 0)), (1, .int (nI bb)), (2, .int (nI sd)), (3, .int (bI b0))]) hx hb dX5_sharesOfThose_4 hl (by decide) rfl (fun ls hl => ?_)
  have lp_6 : ∀ (n : Nat) (i : Nat), i ≤ 6 → 7 ≤ i + n → ∀ (H : Heap) (locs : List Loc) (ls : Array Slot), wo_w (dC, dI) vwCl A s.heap (wc ca ad S) H locs → lv_has ls 7 [(0, .ref (ad 0)), (1, .int (nI bb)), (2, .int (nI sd)), (3, .int (bI b0)), (4, .long (shT S (bb * 2 + sd) b0 i)), (6, .int (nI i))] → W p l e ({ frames := 2, cells := 0, slots := 0, locals := 41 } : Room) s m ([.ref (ad 0), .int (nI bb), .int (nI sd), .int (bI b0)] : List Value).toArray below meth c H locs 0 0 (MQ below (va_Ql (fun r S2 => r = shT S (bb * 2 + sd) b0 6 ∧ S2 = S) (ct_B (dC, dI) vwCl (tyl ca) (wc ca ad) A) A) ([.ref (ad 0), .int (nI bb), .int (nI sd), .int (bI b0)] : List Value).toArray s 0 0 A) (F0 m 6 ls []) := by
    intro n
    induction n with
    | zero =>
      intro i hi hn
      exfalso
      omega
    | succ n ih_6 =>
      intro i hi hn H locs ls hw hl
      refine lv_iload hx hb dX5_sharesOfThose_6 (lv_at hl 5 rfl) ?_
      refine lv_bipush (v := nI 6) hx hb dX5_sharesOfThose_8 (by decide) ?_
      refine lv_icmp_ge (tgt := 48) hx hb dX5_sharesOfThose_10 (by decide) (fun c_1 => ?_) (fun c_1 => ?_)
      · skip
        have c_1 : 6 ≤ i := (nI_leI (a := 6) (b := i) (by omega) (by omega)).mp c_1
        obtain rfl : 6 = i := by omega
        refine lv_lload hx hb dX5_sharesOfThose_48 (lv_at hl 4 rfl) ?_
        exact ct_lret (S := S) (v := shT S (bb * 2 + sd) b0 6) hx hb hr hlocks hK hw (⟨rfl, rfl⟩) dX5_sharesOfThose_50
      · skip
        have c_1 : ¬ (6 ≤ i) := fun h9 => c_1 ((nI_leI (a := 6) (b := i) (by omega) (by omega)).mpr h9)
        refine lv_aload_n hx hb dX5_sharesOfThose_13 rfl (lv_at hl 0 rfl) ?_
        refine wo_get hx hb hts inX5 hown hK hw 0 rfl rfl 0 (by decide) (hts _ wd_166) (fun _ h9 => h9) rfl dX5_sharesOfThose_14 ?_
        refine lv_iload hx hb dX5_sharesOfThose_17 (lv_at hl 5 rfl) ?_
        refine wo_vI (As := [.int (nI i)]) (rest := []) (kX1_isWell l dC dI ca ad S (nI i)) ⟨hx, hb, hml, hown, hts⟩ (cwV 1 hts (wa_gV wd_192 wd_193 wd_194 wd_2 wd_195) rfl rfl rfl (by decide +kernel) ⟨Nat.le_of_ble_eq_true rfl, Nat.le_of_ble_eq_true rfl⟩) hK hw hA 1 rfl rfl rfl rfl hl.1 rfl (Nat.le_of_ble_eq_true rfl) dX5_sharesOfThose_19 ⟨Nat.zero_le _, Nat.zero_le _⟩ (fun r_2 S_2 H locs hp_2 hw => ?_)
        have e9 := hp_2.1.symm
        subst e9
        have e9 := hp_2.2.symm
        subst e9
        refine lv_iload_n hx hb dX5_sharesOfThose_22 rfl (lv_at hl 3 rfl) ?_
        refine lv_icmp_ne (tgt := 42) hx hb dX5_sharesOfThose_23 (by decide) (fun c_3 => ?_) (fun c_3 => ?_)
        · skip
          have c_3 : ¬ (wl S (nI i) = b0) := fun h9 => c_3 (bI_eq.mpr h9)
          refine lv_iinc (v := nI (i + 1)) (lv' := [(6, .int (nI (i + 1))), (0, .ref (ad 0)), (1, .int (nI bb)), (2, .int (nI sd)), (3, .int (bI b0)), (4, .long (shT S (bb * 2 + sd) b0 i))]) hx hb dX5_sharesOfThose_42 hl (k := 5) rfl (nI_inc _) (by decide) rfl (fun ls hl => ?_)
          refine lv_goto (tgt := 6) hx hb dX5_sharesOfThose_45 (by decide) ?_
          have e9 : shT S (bb * 2 + sd) b0 i = shT S (bb * 2 + sd) b0 (i + 1) := by first | rfl | (simp only [shT, c_1, c_3, decide_true, decide_false, Bool.not_true, Bool.not_false, Bool.true_and, Bool.and_true, Bool.false_and, Bool.and_false, Bool.or_true, Bool.true_or, Bool.or_false, Bool.false_or, Bool.false_eq_true, Bool.true_eq_false, if_true, if_false, ↓reduceIte]; done)
          rw [e9] at hl
          exact ih_6 (i + 1) (by omega) (by omega) _ _ _ hw (lv_sub hl [1, 2, 3, 4, 5, 0] rfl)
        · skip
          have c_3 : wl S (nI i) = b0 := bI_eq.mp c_3
          refine lv_lload hx hb dX5_sharesOfThose_26 (lv_at hl 4 rfl) ?_
          refine lv_aload_n hx hb dX5_sharesOfThose_28 rfl (lv_at hl 0 rfl) ?_
          refine wo_get hx hb hts inX5 hown hK hw 0 rfl rfl 1 (by decide) (hts _ wd_167) (fun _ h9 => h9) rfl dX5_sharesOfThose_29 ?_
          refine lv_iload_n hx hb dX5_sharesOfThose_32 rfl (lv_at hl 1 rfl) ?_
          refine lv_iload_n hx hb dX5_sharesOfThose_33 rfl (lv_at hl 2 rfl) ?_
          refine lv_iload hx hb dX5_sharesOfThose_34 (lv_at hl 5 rfl) ?_
          refine wo_vL (As := [.int (nI bb), .int (nI sd), .int (nI i)]) (rest := [.long (shT S (bb * 2 + sd) b0 i)]) (kX0_shareOf l dC dI ca ad S bb sd i (by first | assumption | omega) (by first | assumption | omega) (by first | assumption | omega)) ⟨hx, hb, hml, hown, hts⟩ (cwV 3 hts (wa_gV wd_244 wd_219 wd_220 wd_4 wd_221) rfl rfl rfl (by decide +kernel) ⟨Nat.le_of_ble_eq_true rfl, Nat.le_of_ble_eq_true rfl⟩) hK hw hA 2 rfl rfl rfl rfl hl.1 rfl (Nat.le_of_ble_eq_true rfl) dX5_sharesOfThose_36 ⟨Nat.zero_le _, Nat.zero_le _⟩ (fun r_4 S_4 H locs hp_4 hw => ?_)
          have e9 := hp_4.1.symm
          subst e9
          have e9 := hp_4.2.symm
          subst e9
          refine lv_ladd hx hb dX5_sharesOfThose_39 ?_
          refine lv_lstore (lv' := [(4, .long ((shT S (bb * 2 + sd) b0 i) + (S.2 (14 + (bb * 2 + sd)) i))), (0, .ref (ad 0)), (1, .int (nI bb)), (2, .int (nI sd)), (3, .int (bI b0)), (6, .int (nI i))]) hx hb dX5_sharesOfThose_40 hl (by decide) rfl (fun ls hl => ?_)
          refine lv_iinc (v := nI (i + 1)) (lv' := [(6, .int (nI (i + 1))), (4, .long ((shT S (bb * 2 + sd) b0 i) + (S.2 (14 + (bb * 2 + sd)) i))), (0, .ref (ad 0)), (1, .int (nI bb)), (2, .int (nI sd)), (3, .int (bI b0))]) hx hb dX5_sharesOfThose_42 hl (k := 5) rfl (nI_inc _) (by decide) rfl (fun ls hl => ?_)
          refine lv_goto (tgt := 6) hx hb dX5_sharesOfThose_45 (by decide) ?_
          have e9 : (shT S (bb * 2 + sd) b0 i) + (S.2 (14 + (bb * 2 + sd)) i) = shT S (bb * 2 + sd) b0 (i + 1) := by first | rfl | (simp only [shT, c_1, c_3, decide_true, decide_false, Bool.not_true, Bool.not_false, Bool.true_and, Bool.and_true, Bool.false_and, Bool.and_false, Bool.or_true, Bool.true_or, Bool.or_false, Bool.false_or, Bool.false_eq_true, Bool.true_eq_false, if_true, if_false, ↓reduceIte]; done)
          rw [e9] at hl
          exact ih_6 (i + 1) (by omega) (by omega) _ _ _ hw (lv_sub hl [2, 3, 4, 5, 1, 0] rfl)
  have e9 : 0 = shT S (bb * 2 + sd) b0 0 := by first | rfl | (simp only [shT, decide_true, decide_false, Bool.not_true, Bool.not_false, Bool.true_and, Bool.and_true, Bool.false_and, Bool.and_false, Bool.or_true, Bool.true_or, Bool.or_false, Bool.false_or, Bool.false_eq_true, Bool.true_eq_false, if_true, if_false, ↓reduceIte]; done)
  rw [e9] at hl
  exact lp_6 7 0 (by omega) (by omega) _ _ _ hw (lv_sub hl [2, 3, 4, 5, 1, 0] rfl)

set_option maxHeartbeats 4000000 in
set_option maxRecDepth 100000 in
theorem kX5_isStuck (l : Launch) (dC : Nat → ClassId) (dI : Nat → Nat → Nat) (ca : Nat → ClassId) (ad : Nat → Nat) (S : sSt) (rr : Nat) (hr : rr < 201) : ct_I l yX5_isStuck (Cond.code yX5_isStuck cX5_isStuck 2 (some .boolean) :: wa_T) ({ frames := 2, cells := 0, slots := 0, locals := 41 } : Room) (dC, dI) vwCl (tyl ca) (wc ca ad) S [.ref (ad 0), .int (nI rr)] (fun r S2 => r = bI (stk S rr) ∧ S2 = S) := by
  refine ct_ofI (by decide) (Nat.le_of_ble_eq_true rfl) ?_
  intro p e s m below meth c A ls hx hb hr hml hts hown hlocks hK hA hw hl
  have hl : lv_has ls 2 [(0, .ref (ad 0)), (1, .int (nI rr))] := hl
  refine lv_aload_n hx hb dX5_isStuck_0 rfl (lv_at hl 0 rfl) ?_
  refine wo_get hx hb hts inX5 hown hK hw 0 rfl rfl 2 (by decide) (hts _ wd_168) (fun _ h9 => h9) rfl dX5_isStuck_1 ?_
  refine wo_get hx hb hts inX3 hown hK hw 3 rfl rfl 5 (by decide) (hts _ wd_100) (fun _ h9 => h9) rfl dX5_isStuck_4 ?_
  refine lv_iload_n hx hb dX5_isStuck_7 rfl (lv_at hl 1 rfl) ?_
  refine wo_iald hx hb hK hw 30 0 rfl rfl rr rfl (by first | assumption | omega) (by decide) dX5_isStuck_8 ?_
  refine lv_iconst (v := nI 2) hx hb dX5_isStuck_9 (by decide) ?_
  refine lv_icmp_eq (tgt := 32) hx hb dX5_isStuck_10 (by decide) (fun c_1 => ?_) (fun c_1 => ?_)
  · skip
    refine lv_iconst (v := nI 1) hx hb dX5_isStuck_32 (by decide) ?_
    refine lv_goto (tgt := 37) hx hb dX5_isStuck_33 (by decide) ?_
    exact ct_zret (S := S) (v := nI 1) hx hb hr hlocks hK (by first | decide | exact nb_z _) hw (⟨by simp only [bI, stk, c_1, decide_true, decide_false, Bool.not_true, Bool.not_false, Bool.true_and, Bool.and_true, Bool.false_and, Bool.and_false, Bool.or_true, Bool.true_or, Bool.or_false, Bool.false_or, Bool.false_eq_true, Bool.true_eq_false, if_true, if_false, ↓reduceIte], rfl⟩) dX5_isStuck_37
  · skip
    refine lv_aload_n hx hb dX5_isStuck_13 rfl (lv_at hl 0 rfl) ?_
    refine wo_get hx hb hts inX5 hown hK hw 0 rfl rfl 0 (by decide) (hts _ wd_166) (fun _ h9 => h9) rfl dX5_isStuck_14 ?_
    refine lv_aload_n hx hb dX5_isStuck_17 rfl (lv_at hl 0 rfl) ?_
    refine wo_get hx hb hts inX5 hown hK hw 0 rfl rfl 2 (by decide) (hts _ wd_168) (fun _ h9 => h9) rfl dX5_isStuck_18 ?_
    refine wo_get hx hb hts inX3 hown hK hw 3 rfl rfl 4 (by decide) (hts _ wd_98) (fun _ h9 => h9) rfl dX5_isStuck_21 ?_
    refine lv_iload_n hx hb dX5_isStuck_24 rfl (lv_at hl 1 rfl) ?_
    refine wo_iald hx hb hK hw 29 0 rfl rfl rr rfl (by first | assumption | omega) (by decide) dX5_isStuck_25 ?_
    refine wo_vI (As := [.int (S.1 29 rr)]) (rest := []) (kX1_isWell l dC dI ca ad S (S.1 29 rr)) ⟨hx, hb, hml, hown, hts⟩ (cwV 1 hts (wa_gV wd_192 wd_193 wd_194 wd_2 wd_195) rfl rfl rfl (by decide +kernel) ⟨Nat.le_of_ble_eq_true rfl, Nat.le_of_ble_eq_true rfl⟩) hK hw hA 1 rfl rfl rfl rfl hl.1 rfl (Nat.le_of_ble_eq_true rfl) dX5_isStuck_26 ⟨Nat.zero_le _, Nat.zero_le _⟩ (fun r_2 S_2 H locs hp_2 hw => ?_)
    have e9 := hp_2.1.symm
    subst e9
    have e9 := hp_2.2.symm
    subst e9
    refine lv_if_ne (tgt := 36) hx hb dX5_isStuck_29 (by decide) (fun c_3 => ?_) (fun c_3 => ?_)
    · skip
      have c_3 : wl S (S.1 29 rr) = true := nb_1 c_3
      refine lv_iconst (v := nI 0) hx hb dX5_isStuck_36 (by decide) ?_
      exact ct_zret (S := S) (v := nI 0) hx hb hr hlocks hK (by first | decide | exact nb_z _) hw (⟨by simp only [bI, stk, c_1, c_3, decide_true, decide_false, Bool.not_true, Bool.not_false, Bool.true_and, Bool.and_true, Bool.false_and, Bool.and_false, Bool.or_true, Bool.true_or, Bool.or_false, Bool.false_or, Bool.false_eq_true, Bool.true_eq_false, if_true, if_false, ↓reduceIte], rfl⟩) dX5_isStuck_37
    · skip
      have c_3 : wl S (S.1 29 rr) = false := nb_0 c_3
      refine lv_iconst (v := nI 1) hx hb dX5_isStuck_32 (by decide) ?_
      refine lv_goto (tgt := 37) hx hb dX5_isStuck_33 (by decide) ?_
      exact ct_zret (S := S) (v := nI 1) hx hb hr hlocks hK (by first | decide | exact nb_z _) hw (⟨by simp only [bI, stk, c_1, c_3, decide_true, decide_false, Bool.not_true, Bool.not_false, Bool.true_and, Bool.and_true, Bool.false_and, Bool.and_false, Bool.or_true, Bool.true_or, Bool.or_false, Bool.false_or, Bool.false_eq_true, Bool.true_eq_false, if_true, if_false, ↓reduceIte], rfl⟩) dX5_isStuck_37

set_option maxHeartbeats 4000000 in
set_option maxRecDepth 100000 in
theorem kX5_heldByRows (l : Launch) (dC : Nat → ClassId) (dI : Nat → Nat → Nat) (ca : Nat → ClassId) (ad : Nat → Nat) (S : sSt) (bb : Nat) (sd : Nat) (b0 : Bool) (nr : Nat) (hr : nr ≤ 200) (hcnt : S.1 3 0 = nI nr) : ct_L l yX5_heldByRows (Cond.code yX5_heldByRows cX5_heldByRows 7 (some .long) :: wa_T) ({ frames := 3, cells := 0, slots := 0, locals := 62 } : Room) (dC, dI) vwCl (tyl ca) (wc ca ad) S [.ref (ad 0), .int (nI bb), .int (nI sd), .int (bI b0)] (fun r S2 => r = hbr S bb sd b0 nr ∧ S2 = S) := by
  refine ct_ofL (by decide) (Nat.le_of_ble_eq_true rfl) ?_
  intro p e s m below meth c A ls hx hb hr hml hts hown hlocks hK hA hw hl
  have hl : lv_has ls 7 [(0, .ref (ad 0)), (1, .int (nI bb)), (2, .int (nI sd)), (3, .int (bI b0))] := hl
  refine lv_lconst (v := 0) hx hb dX5_heldByRows_0 (by decide) ?_
  refine lv_lstore (lv' := [(4, .long 0), (0, .ref (ad 0)), (1, .int (nI bb)), (2, .int (nI sd)), (3, .int (bI b0))]) hx hb dX5_heldByRows_1 hl (by decide) rfl (fun ls hl => ?_)
  refine lv_iconst (v := nI 1) hx hb dX5_heldByRows_3 (by decide) ?_
  refine lv_istore (lv' := [(6, .int (nI 1)), (4, .long 0), (0, .ref (ad 0)), (1, .int (nI bb)), (2, .int (nI sd)), (3, .int (bI b0))]) hx hb dX5_heldByRows_4 hl (by decide) rfl (fun ls hl => ?_)
  have lp_6 : ∀ (n : Nat) (i : Nat), i ≤ nr → nr + 1 ≤ i + n → ∀ (H : Heap) (locs : List Loc) (ls : Array Slot), wo_w (dC, dI) vwCl A s.heap (wc ca ad S) H locs → lv_has ls 7 [(0, .ref (ad 0)), (1, .int (nI bb)), (2, .int (nI sd)), (3, .int (bI b0)), (4, .long (hbr S bb sd b0 i)), (6, .int (nI (i + 1)))] → W p l e ({ frames := 3, cells := 0, slots := 0, locals := 62 } : Room) s m ([.ref (ad 0), .int (nI bb), .int (nI sd), .int (bI b0)] : List Value).toArray below meth c H locs 0 0 (MQ below (va_Ql (fun r S2 => r = hbr S bb sd b0 nr ∧ S2 = S) (ct_B (dC, dI) vwCl (tyl ca) (wc ca ad) A) A) ([.ref (ad 0), .int (nI bb), .int (nI sd), .int (bI b0)] : List Value).toArray s 0 0 A) (F0 m 6 ls []) := by
    intro n
    induction n with
    | zero =>
      intro i hi hn
      exfalso
      omega
    | succ n ih_6 =>
      intro i hi hn H locs ls hw hl
      refine lv_iload hx hb dX5_heldByRows_6 (lv_at hl 5 rfl) ?_
      refine lv_aload_n hx hb dX5_heldByRows_8 rfl (lv_at hl 0 rfl) ?_
      refine wo_get hx hb hts inX5 hown hK hw 0 rfl rfl 2 (by decide) (hts _ wd_168) (fun _ h9 => h9) rfl dX5_heldByRows_9 ?_
      refine wo_get hx hb hts inX3 hown hK hw 3 rfl rfl 0 (by decide) (hts _ wd_90) (fun _ h9 => h9) rfl dX5_heldByRows_12 ?_
      refine tp_i (y := nI nr) (hcnt) ?_
      refine lv_icmp_gt (tgt := 63) hx hb dX5_heldByRows_15 (by decide) (fun c_1 => ?_) (fun c_1 => ?_)
      · skip
        have c_1 : nr < (i + 1) := (nI_ltI (a := nr) (b := i + 1) (by omega) (by omega)).mp c_1
        obtain rfl : nr = i := by omega
        refine lv_lload hx hb dX5_heldByRows_63 (lv_at hl 4 rfl) ?_
        exact ct_lret (S := S) (v := hbr S bb sd b0 nr) hx hb hr hlocks hK hw (⟨rfl, rfl⟩) dX5_heldByRows_65
      · skip
        have c_1 : ¬ (nr < (i + 1)) := fun h9 => c_1 ((nI_ltI (a := nr) (b := i + 1) (by omega) (by omega)).mpr h9)
        refine lv_aload_n hx hb dX5_heldByRows_18 rfl (lv_at hl 0 rfl) ?_
        refine wo_get hx hb hts inX5 hown hK hw 0 rfl rfl 2 (by decide) (hts _ wd_168) (fun _ h9 => h9) rfl dX5_heldByRows_19 ?_
        refine lv_iload hx hb dX5_heldByRows_22 (lv_at hl 5 rfl) ?_
        refine lv_iload_n hx hb dX5_heldByRows_24 rfl (lv_at hl 1 rfl) ?_
        refine lv_iload_n hx hb dX5_heldByRows_25 rfl (lv_at hl 2 rfl) ?_
        refine wo_vI (As := [.int (nI (i + 1)), .int (nI bb), .int (nI sd)]) (rest := []) (kX3_isOf l dC dI ca ad S (i + 1) bb sd (by first | assumption | omega)) ⟨hx, hb, hml, hown, hts⟩ (cwV 3 hts (wa_gV wd_537 wd_322 wd_323 wd_5 wd_324) rfl rfl rfl (by decide +kernel) ⟨Nat.le_of_ble_eq_true rfl, Nat.le_of_ble_eq_true rfl⟩) hK hw hA 3 rfl rfl rfl rfl hl.1 rfl (Nat.le_of_ble_eq_true rfl) dX5_heldByRows_26 ⟨Nat.zero_le _, Nat.zero_le _⟩ (fun r_2 S_2 H locs hp_2 hw => ?_)
        have e9 := hp_2.1.symm
        subst e9
        have e9 := hp_2.2.symm
        subst e9
        refine lv_if_eq (tgt := 57) hx hb dX5_heldByRows_29 (by decide) (fun c_3 => ?_) (fun c_3 => ?_)
        · skip
          have c_3 : isOf S (i + 1) bb sd = false := nb_0 c_3
          refine lv_iinc (v := nI ((i + 1) + 1)) (lv' := [(6, .int (nI ((i + 1) + 1))), (0, .ref (ad 0)), (1, .int (nI bb)), (2, .int (nI sd)), (3, .int (bI b0)), (4, .long (hbr S bb sd b0 i))]) hx hb dX5_heldByRows_57 hl (k := 5) rfl (nI_inc _) (by decide) rfl (fun ls hl => ?_)
          refine lv_goto (tgt := 6) hx hb dX5_heldByRows_60 (by decide) ?_
          have e9 : hbr S bb sd b0 i = hbr S bb sd b0 (i + 1) := by first | rfl | (simp only [hbr, c_1, c_3, decide_true, decide_false, Bool.not_true, Bool.not_false, Bool.true_and, Bool.and_true, Bool.false_and, Bool.and_false, Bool.or_true, Bool.true_or, Bool.or_false, Bool.false_or, Bool.false_eq_true, Bool.true_eq_false, if_true, if_false, ↓reduceIte]; done)
          rw [e9] at hl
          exact ih_6 (i + 1) (by omega) (by omega) _ _ _ hw (lv_sub hl [1, 2, 3, 4, 5, 0] rfl)
        · skip
          have c_3 : isOf S (i + 1) bb sd = true := nb_1 c_3
          refine lv_aload_n hx hb dX5_heldByRows_32 rfl (lv_at hl 0 rfl) ?_
          refine lv_iload hx hb dX5_heldByRows_33 (lv_at hl 5 rfl) ?_
          refine wo_vI (As := [.int (nI (i + 1))]) (rest := []) (kX5_isStuck l dC dI ca ad S (i + 1) (by first | assumption | omega)) ⟨hx, hb, hml, hown, hts⟩ (cwV 1 hts (wa_gV wd_538 wd_540 ws_12 wd_1 wd_541) rfl rfl rfl (by decide +kernel) ⟨Nat.le_of_ble_eq_true rfl, Nat.le_of_ble_eq_true rfl⟩) hK hw hA 0 rfl rfl rfl rfl hl.1 rfl (Nat.le_of_ble_eq_true rfl) dX5_heldByRows_35 ⟨Nat.zero_le _, Nat.zero_le _⟩ (fun r_4 S_4 H locs hp_4 hw => ?_)
          have e9 := hp_4.1.symm
          subst e9
          have e9 := hp_4.2.symm
          subst e9
          refine lv_iload_n hx hb dX5_heldByRows_38 rfl (lv_at hl 3 rfl) ?_
          refine lv_icmp_ne (tgt := 57) hx hb dX5_heldByRows_39 (by decide) (fun c_5 => ?_) (fun c_5 => ?_)
          · skip
            have c_5 : ¬ (stk S (i + 1) = b0) := fun h9 => c_5 (bI_eq.mpr h9)
            refine lv_iinc (v := nI ((i + 1) + 1)) (lv' := [(6, .int (nI ((i + 1) + 1))), (0, .ref (ad 0)), (1, .int (nI bb)), (2, .int (nI sd)), (3, .int (bI b0)), (4, .long (hbr S bb sd b0 i))]) hx hb dX5_heldByRows_57 hl (k := 5) rfl (nI_inc _) (by decide) rfl (fun ls hl => ?_)
            refine lv_goto (tgt := 6) hx hb dX5_heldByRows_60 (by decide) ?_
            have e9 : hbr S bb sd b0 i = hbr S bb sd b0 (i + 1) := by first | rfl | (simp only [hbr, c_1, c_3, c_5, decide_true, decide_false, Bool.not_true, Bool.not_false, Bool.true_and, Bool.and_true, Bool.false_and, Bool.and_false, Bool.or_true, Bool.true_or, Bool.or_false, Bool.false_or, Bool.false_eq_true, Bool.true_eq_false, if_true, if_false, ↓reduceIte]; done)
            rw [e9] at hl
            exact ih_6 (i + 1) (by omega) (by omega) _ _ _ hw (lv_sub hl [1, 2, 3, 4, 5, 0] rfl)
          · skip
            have c_5 : stk S (i + 1) = b0 := bI_eq.mp c_5
            refine lv_lload hx hb dX5_heldByRows_42 (lv_at hl 4 rfl) ?_
            refine lv_aload_n hx hb dX5_heldByRows_44 rfl (lv_at hl 0 rfl) ?_
            refine wo_get hx hb hts inX5 hown hK hw 0 rfl rfl 2 (by decide) (hts _ wd_168) (fun _ h9 => h9) rfl dX5_heldByRows_45 ?_
            refine wo_get hx hb hts inX3 hown hK hw 3 rfl rfl 8 (by decide) (hts _ wd_106) (fun _ h9 => h9) rfl dX5_heldByRows_48 ?_
            refine lv_iload hx hb dX5_heldByRows_51 (lv_at hl 5 rfl) ?_
            refine wo_lald hx hb hK hw 33 1 rfl rfl (i + 1) rfl (by first | assumption | omega) (by decide) dX5_heldByRows_53 ?_
            refine lv_ladd hx hb dX5_heldByRows_54 ?_
            refine lv_lstore (lv' := [(4, .long ((hbr S bb sd b0 i) + (S.2 33 (i + 1)))), (0, .ref (ad 0)), (1, .int (nI bb)), (2, .int (nI sd)), (3, .int (bI b0)), (6, .int (nI (i + 1)))]) hx hb dX5_heldByRows_55 hl (by decide) rfl (fun ls hl => ?_)
            refine lv_iinc (v := nI ((i + 1) + 1)) (lv' := [(6, .int (nI ((i + 1) + 1))), (4, .long ((hbr S bb sd b0 i) + (S.2 33 (i + 1)))), (0, .ref (ad 0)), (1, .int (nI bb)), (2, .int (nI sd)), (3, .int (bI b0))]) hx hb dX5_heldByRows_57 hl (k := 5) rfl (nI_inc _) (by decide) rfl (fun ls hl => ?_)
            refine lv_goto (tgt := 6) hx hb dX5_heldByRows_60 (by decide) ?_
            have e9 : (hbr S bb sd b0 i) + (S.2 33 (i + 1)) = hbr S bb sd b0 (i + 1) := by first | rfl | (simp only [hbr, c_1, c_3, c_5, decide_true, decide_false, Bool.not_true, Bool.not_false, Bool.true_and, Bool.and_true, Bool.false_and, Bool.and_false, Bool.or_true, Bool.true_or, Bool.or_false, Bool.false_or, Bool.false_eq_true, Bool.true_eq_false, if_true, if_false, ↓reduceIte]; done)
            rw [e9] at hl
            exact ih_6 (i + 1) (by omega) (by omega) _ _ _ hw (lv_sub hl [2, 3, 4, 5, 1, 0] rfl)
  have e9 : 0 = hbr S bb sd b0 0 := by first | rfl | (simp only [hbr, decide_true, decide_false, Bool.not_true, Bool.not_false, Bool.true_and, Bool.and_true, Bool.false_and, Bool.and_false, Bool.or_true, Bool.true_or, Bool.or_false, Bool.false_or, Bool.false_eq_true, Bool.true_eq_false, if_true, if_false, ↓reduceIte]; done)
  rw [e9] at hl
  have e9 : nI 1 = nI (0 + 1) := by first | rfl | (simp only [hbr, decide_true, decide_false, Bool.not_true, Bool.not_false, Bool.true_and, Bool.and_true, Bool.false_and, Bool.and_false, Bool.or_true, Bool.true_or, Bool.or_false, Bool.false_or, Bool.false_eq_true, Bool.true_eq_false, if_true, if_false, ↓reduceIte]; done)
  rw [e9] at hl
  exact lp_6 (nr + 1) 0 (by omega) (by omega) _ _ _ hw (lv_sub hl [2, 3, 4, 5, 1, 0] rfl)
end
section
theorem dX5_recover_0 : decode cX5_recover 0 = .ok (.aload_n 0, 1) := by decide +kernel
theorem dX5_recover_1 : decode cX5_recover 1 = .ok (.getfield 10, 3) := by decide +kernel
theorem dX5_recover_4 : decode cX5_recover 4 = .ok (.getfield 172, 3) := by decide +kernel
theorem dX5_recover_7 : decode cX5_recover 7 = .ok (.iload_n 1, 1) := by decide +kernel
theorem dX5_recover_8 : decode cX5_recover 8 = .ok (.iconst 2, 1) := by decide +kernel
theorem dX5_recover_9 : decode cX5_recover 9 = .ok (.iastore, 1) := by decide +kernel
theorem dX5_recover_10 : decode cX5_recover 10 = .ok (.aload_n 0, 1) := by decide +kernel
theorem dX5_recover_11 : decode cX5_recover 11 = .ok (.invokevirtual 260, 3) := by decide +kernel
theorem dX5_recover_14 : decode cX5_recover 14 = .ok (.iconst 0, 1) := by decide +kernel
theorem dX5_recover_15 : decode cX5_recover 15 = .ok (.istore_n 2, 1) := by decide +kernel
theorem dX5_recover_16 : decode cX5_recover 16 = .ok (.iload_n 2, 1) := by decide +kernel
theorem dX5_recover_17 : decode cX5_recover 17 = .ok (.aload_n 0, 1) := by decide +kernel
theorem dX5_recover_18 : decode cX5_recover 18 = .ok (.getfield 19, 3) := by decide +kernel
theorem dX5_recover_21 : decode cX5_recover 21 = .ok (.getfield 77, 3) := by decide +kernel
theorem dX5_recover_24 : decode cX5_recover 24 = .ok (.if_icmp .ge 84, 3) := by decide +kernel
theorem dX5_recover_27 : decode cX5_recover 27 = .ok (.iconst 0, 1) := by decide +kernel
theorem dX5_recover_28 : decode cX5_recover 28 = .ok (.istore_n 3, 1) := by decide +kernel
theorem dX5_recover_29 : decode cX5_recover 29 = .ok (.iload_n 3, 1) := by decide +kernel
theorem dX5_recover_30 : decode cX5_recover 30 = .ok (.iconst 2, 1) := by decide +kernel
theorem dX5_recover_31 : decode cX5_recover 31 = .ok (.if_icmp .ge 71, 3) := by decide +kernel
theorem dX5_recover_34 : decode cX5_recover 34 = .ok (.aload_n 0, 1) := by decide +kernel
theorem dX5_recover_35 : decode cX5_recover 35 = .ok (.getfield 40, 3) := by decide +kernel
theorem dX5_recover_38 : decode cX5_recover 38 = .ok (.aload_n 0, 1) := by decide +kernel
theorem dX5_recover_39 : decode cX5_recover 39 = .ok (.getfield 19, 3) := by decide +kernel
theorem dX5_recover_42 : decode cX5_recover 42 = .ok (.iload_n 2, 1) := by decide +kernel
theorem dX5_recover_43 : decode cX5_recover 43 = .ok (.iload_n 3, 1) := by decide +kernel
theorem dX5_recover_44 : decode cX5_recover 44 = .ok (.iload_n 1, 1) := by decide +kernel
theorem dX5_recover_45 : decode cX5_recover 45 = .ok (.invokevirtual 263, 3) := by decide +kernel
theorem dX5_recover_48 : decode cX5_recover 48 = .ok (.aload_n 0, 1) := by decide +kernel
theorem dX5_recover_49 : decode cX5_recover 49 = .ok (.getfield 26, 3) := by decide +kernel
theorem dX5_recover_52 : decode cX5_recover 52 = .ok (.iload_n 2, 1) := by decide +kernel
theorem dX5_recover_53 : decode cX5_recover 53 = .ok (.iload_n 3, 1) := by decide +kernel
theorem dX5_recover_54 : decode cX5_recover 54 = .ok (.iload_n 1, 1) := by decide +kernel
theorem dX5_recover_55 : decode cX5_recover 55 = .ok (.invokevirtual 266, 3) := by decide +kernel
theorem dX5_recover_58 : decode cX5_recover 58 = .ok (.ladd, 1) := by decide +kernel
theorem dX5_recover_59 : decode cX5_recover 59 = .ok (.invokevirtual 90, 3) := by decide +kernel
theorem dX5_recover_62 : decode cX5_recover 62 = .ok (.iconst 0, 1) := by decide +kernel
theorem dX5_recover_63 : decode cX5_recover 63 = .ok (.istore 4, 2) := by decide +kernel
theorem dX5_recover_65 : decode cX5_recover 65 = .ok (.iload 4, 2) := by decide +kernel
theorem dX5_recover_67 : decode cX5_recover 67 = .ok (.bipush 6, 2) := by decide +kernel
theorem dX5_recover_69 : decode cX5_recover 69 = .ok (.if_icmp .ge 27, 3) := by decide +kernel
theorem dX5_recover_72 : decode cX5_recover 72 = .ok (.aload_n 0, 1) := by decide +kernel
theorem dX5_recover_73 : decode cX5_recover 73 = .ok (.iload_n 2, 1) := by decide +kernel
theorem dX5_recover_74 : decode cX5_recover 74 = .ok (.iload_n 3, 1) := by decide +kernel
theorem dX5_recover_75 : decode cX5_recover 75 = .ok (.iload 4, 2) := by decide +kernel
theorem dX5_recover_77 : decode cX5_recover 77 = .ok (.aload_n 0, 1) := by decide +kernel
theorem dX5_recover_78 : decode cX5_recover 78 = .ok (.getfield 40, 3) := by decide +kernel
theorem dX5_recover_81 : decode cX5_recover 81 = .ok (.getfield 94, 3) := by decide +kernel
theorem dX5_recover_84 : decode cX5_recover 84 = .ok (.iload 4, 2) := by decide +kernel
theorem dX5_recover_86 : decode cX5_recover 86 = .ok (.laload, 1) := by decide +kernel
theorem dX5_recover_87 : decode cX5_recover 87 = .ok (.invokevirtual 168, 3) := by decide +kernel
theorem dX5_recover_90 : decode cX5_recover 90 = .ok (.iinc 4 1, 3) := by decide +kernel
theorem dX5_recover_93 : decode cX5_recover 93 = .ok (.goto (-28), 3) := by decide +kernel
theorem dX5_recover_96 : decode cX5_recover 96 = .ok (.iinc 3 1, 3) := by decide +kernel
theorem dX5_recover_99 : decode cX5_recover 99 = .ok (.goto (-70), 3) := by decide +kernel
theorem dX5_recover_102 : decode cX5_recover 102 = .ok (.iinc 2 1, 3) := by decide +kernel
theorem dX5_recover_105 : decode cX5_recover 105 = .ok (.goto (-89), 3) := by decide +kernel
theorem dX5_recover_108 : decode cX5_recover 108 = .ok (.return_, 1) := by decide +kernel

set_option maxHeartbeats 4000000 in
set_option maxRecDepth 100000 in
theorem kX5_recover (l : Launch) (dC : Nat → ClassId) (dI : Nat → Nat → Nat) (ca : Nat → ClassId) (ad : Nat → Nat) (S : sSt) (gg : Nat) (nb : Nat) (nr : Nat) (hg : gg < 6) (hb6 : nb ≤ 6) (hr2 : nr ≤ 200) (hri : RI nb nr S) : ct_V l yX5_recover (Cond.code yX5_recover cX5_recover 5 none :: wa_T) ({ frames := 4, cells := 0, slots := 0, locals := 98 } : Room) (dC, dI) vwCl (tyl ca) (wc ca ad) S [.ref (ad 0), .int (nI gg)] (fun S2 => S2 = recF S gg nb nr) := by
  refine ct_ofV (by decide) (Nat.le_of_ble_eq_true rfl) ?_
  intro p e s m below meth c A ls hx hb hr hml hts hown hlocks hK hA hw hl
  have hl : lv_has ls 5 [(0, .ref (ad 0)), (1, .int (nI gg))] := hl
  refine lv_aload_n hx hb dX5_recover_0 rfl (lv_at hl 0 rfl) ?_
  refine wo_get hx hb hts inX5 hown hK hw 0 rfl rfl 0 (by decide) (hts _ wd_166) (fun _ h9 => h9) rfl dX5_recover_1 ?_
  refine wo_get hx hb hts inX1 hown hK hw 1 rfl rfl 2 (by decide) (hts _ wd_40) (fun _ h9 => h9) rfl dX5_recover_4 ?_
  refine lv_iload_n hx hb dX5_recover_7 rfl (lv_at hl 1 rfl) ?_
  refine lv_iconst (v := nI 2) hx hb dX5_recover_8 (by decide) ?_
  refine wo_iast hx hb hK hw 8 0 rfl rfl gg rfl (by first | assumption | omega) (by decide) (se_8 ca ad S gg (nI 2)) dX5_recover_9 (fun H locs hw => ?_)
  refine lv_aload_n hx hb dX5_recover_10 rfl (lv_at hl 0 rfl) ?_
  refine wo_vV (As := []) (rest := []) (kX5_useEqualWeights l dC dI ca ad (sI S 8 gg (nI 2)) ) ⟨hx, hb, hml, hown, hts⟩ (cwV 0 hts (wa_gV wd_309 wd_311 ws_6 wd_1 wd_312) rfl rfl rfl (by decide +kernel) ⟨Nat.le_of_ble_eq_true rfl, Nat.le_of_ble_eq_true rfl⟩) hK hw hA 0 rfl rfl rfl rfl hl.1 rfl (Nat.le_of_ble_eq_true rfl) dX5_recover_11 ⟨Nat.zero_le _, Nat.zero_le _⟩ (fun S_1 H locs hp_1 hw => ?_)
  have e9 := hp_1.symm
  subst e9
  have hS0 : RI nb nr (uew (sI S 8 gg (nI 2)) 6) := RI_eq (RI_of (T := sI S 8 gg (nI 2)) hri rfl (fun q hq => by funext j; rw [sI_1, if_neg (by omega)]) rfl rfl) (uew_1 _ _)
  refine lv_iconst (v := nI 0) hx hb dX5_recover_14 (by decide) ?_
  refine lv_istore_n (lv' := [(2, .int (nI 0)), (0, .ref (ad 0)), (1, .int (nI gg))]) hx hb dX5_recover_15 rfl hl (by decide) rfl (fun ls hl => ?_)
  have lp_16 : ∀ (n : Nat) (i : Nat), i ≤ nb → nb + 1 ≤ i + n → ∀ (H : Heap) (locs : List Loc) (ls : Array Slot), wo_w (dC, dI) vwCl A s.heap (wc ca ad (recB gg nr (uew (sI S 8 gg (nI 2)) 6) i)) H locs → lv_has ls 5 [(0, .ref (ad 0)), (1, .int (nI gg)), (2, .int (nI i))] → W p l e ({ frames := 4, cells := 0, slots := 0, locals := 98 } : Room) s m ([.ref (ad 0), .int (nI gg)] : List Value).toArray below meth c H locs 0 0 (MQ below (va_Qv (fun S2 => S2 = recF S gg nb nr) (ct_B (dC, dI) vwCl (tyl ca) (wc ca ad) A) A) ([.ref (ad 0), .int (nI gg)] : List Value).toArray s 0 0 A) (F0 m 16 ls []) := by
    intro n
    induction n with
    | zero =>
      intro i hi hn
      exfalso
      omega
    | succ n ih_16 =>
      intro i hi hn H locs ls hw hl
      refine lv_iload_n hx hb dX5_recover_16 rfl (lv_at hl 2 rfl) ?_
      refine lv_aload_n hx hb dX5_recover_17 rfl (lv_at hl 0 rfl) ?_
      refine wo_get hx hb hts inX5 hown hK hw 0 rfl rfl 1 (by decide) (hts _ wd_167) (fun _ h9 => h9) rfl dX5_recover_18 ?_
      refine wo_get hx hb hts inX0 hown hK hw 2 rfl rfl 0 (by decide) (hts _ wd_64) (fun _ h9 => h9) rfl dX5_recover_21 ?_
      refine tp_i (y := nI nb) ((RI_recB hS0 i).2.1) ?_
      refine lv_icmp_ge (tgt := 108) hx hb dX5_recover_24 (by decide) (fun c_2 => ?_) (fun c_2 => ?_)
      · skip
        have c_2 : nb ≤ i := (nI_leI (a := nb) (b := i) (by omega) (by omega)).mp c_2
        obtain rfl : nb = i := by omega
        exact ct_vret (S := recB gg nr (uew (sI S 8 gg (nI 2)) 6) nb) hx hb hr hlocks hK hw (rfl) dX5_recover_108
      · skip
        have c_2 : ¬ (nb ≤ i) := fun h9 => c_2 ((nI_leI (a := nb) (b := i) (by omega) (by omega)).mpr h9)
        refine lv_iconst (v := nI 0) hx hb dX5_recover_27 (by decide) ?_
        refine lv_istore_n (lv' := [(3, .int (nI 0)), (0, .ref (ad 0)), (1, .int (nI gg)), (2, .int (nI i))]) hx hb dX5_recover_28 rfl hl (by decide) rfl (fun ls hl => ?_)
        have lp_29 : ∀ (n : Nat) (j : Nat), j ≤ 2 → 3 ≤ j + n → ∀ (H : Heap) (locs : List Loc) (ls : Array Slot), wo_w (dC, dI) vwCl A s.heap (wc ca ad (recS gg nr i (recB gg nr (uew (sI S 8 gg (nI 2)) 6) i) j)) H locs → lv_has ls 5 [(0, .ref (ad 0)), (1, .int (nI gg)), (2, .int (nI i)), (3, .int (nI j))] → W p l e ({ frames := 4, cells := 0, slots := 0, locals := 98 } : Room) s m ([.ref (ad 0), .int (nI gg)] : List Value).toArray below meth c H locs 0 0 (MQ below (va_Qv (fun S2 => S2 = recF S gg nb nr) (ct_B (dC, dI) vwCl (tyl ca) (wc ca ad) A) A) ([.ref (ad 0), .int (nI gg)] : List Value).toArray s 0 0 A) (F0 m 29 ls []) := by
          intro n
          induction n with
          | zero =>
            intro j hj hn
            exfalso
            omega
          | succ n ih_29 =>
            intro j hj hn H locs ls hw hl
            refine lv_iload_n hx hb dX5_recover_29 rfl (lv_at hl 3 rfl) ?_
            refine lv_iconst (v := nI 2) hx hb dX5_recover_30 (by decide) ?_
            refine lv_icmp_ge (tgt := 102) hx hb dX5_recover_31 (by decide) (fun c_3 => ?_) (fun c_3 => ?_)
            · skip
              have c_3 : 2 ≤ j := (nI_leI (a := 2) (b := j) (by omega) (by omega)).mp c_3
              obtain rfl : 2 = j := by omega
              refine lv_iinc (v := nI (i + 1)) (lv' := [(2, .int (nI (i + 1))), (0, .ref (ad 0)), (1, .int (nI gg)), (3, .int (nI 2))]) hx hb dX5_recover_102 hl (k := 2) rfl (nI_inc _) (by decide) rfl (fun ls hl => ?_)
              refine lv_goto (tgt := 16) hx hb dX5_recover_105 (by decide) ?_
              have e9 : recS gg nr i (recB gg nr (uew (sI S 8 gg (nI 2)) 6) i) 2 = recB gg nr (uew (sI S 8 gg (nI 2)) 6) (i + 1) := rfl
              rw [e9] at hw
              exact ih_16 (i + 1) (by omega) (by omega) _ _ _ hw (lv_sub hl [1, 2, 0] rfl)
            · skip
              have c_3 : ¬ (2 ≤ j) := fun h9 => c_3 ((nI_leI (a := 2) (b := j) (by omega) (by omega)).mpr h9)
              refine lv_aload_n hx hb dX5_recover_34 rfl (lv_at hl 0 rfl) ?_
              refine wo_get hx hb hts inX5 hown hK hw 0 rfl rfl 4 (by decide) (hts _ wd_170) (fun _ h9 => h9) rfl dX5_recover_35 ?_
              refine lv_aload_n hx hb dX5_recover_38 rfl (lv_at hl 0 rfl) ?_
              refine wo_get hx hb hts inX5 hown hK hw 0 rfl rfl 1 (by decide) (hts _ wd_167) (fun _ h9 => h9) rfl dX5_recover_39 ?_
              refine lv_iload_n hx hb dX5_recover_42 rfl (lv_at hl 2 rfl) ?_
              refine lv_iload_n hx hb dX5_recover_43 rfl (lv_at hl 3 rfl) ?_
              refine lv_iload_n hx hb dX5_recover_44 rfl (lv_at hl 1 rfl) ?_
              refine wo_vL (As := [.int (nI i), .int (nI j), .int (nI gg)]) (rest := [.ref (ad 5)]) (kX0_emptyShare l dC dI ca ad (recS gg nr i (recB gg nr (uew (sI S 8 gg (nI 2)) 6) i) j) i j gg (by first | assumption | omega) (by first | assumption | omega) (by first | assumption | omega)) ⟨hx, hb, hml, hown, hts⟩ (cwV 3 hts (wa_gV wd_313 wd_314 wd_315 wd_4 wd_316) rfl rfl rfl (by decide +kernel) ⟨Nat.le_of_ble_eq_true rfl, Nat.le_of_ble_eq_true rfl⟩) hK hw hA 2 rfl rfl rfl rfl hl.1 rfl (Nat.le_of_ble_eq_true rfl) dX5_recover_45 ⟨Nat.zero_le _, Nat.zero_le _⟩ (fun r_4 S_4 H locs hp_4 hw => ?_)
              have e9 := hp_4.1.symm
              subst e9
              have e9 := hp_4.2.symm
              subst e9
              refine lv_aload_n hx hb dX5_recover_48 rfl (lv_at hl 0 rfl) ?_
              refine wo_get hx hb hts inX5 hown hK hw 0 rfl rfl 2 (by decide) (hts _ wd_168) (fun _ h9 => h9) rfl dX5_recover_49 ?_
              refine lv_iload_n hx hb dX5_recover_52 rfl (lv_at hl 2 rfl) ?_
              refine lv_iload_n hx hb dX5_recover_53 rfl (lv_at hl 3 rfl) ?_
              refine lv_iload_n hx hb dX5_recover_54 rfl (lv_at hl 1 rfl) ?_
              refine wo_vL (As := [.int (nI i), .int (nI j), .int (nI gg)]) (rest := [.long ((recS gg nr i (recB gg nr (uew (sI S 8 gg (nI 2)) 6) i) j).2 (14 + (i * 2 + j)) gg), .ref (ad 5)]) (kX3_callBack l dC dI ca ad (addSh (recS gg nr i (recB gg nr (uew (sI S 8 gg (nI 2)) 6) i) j) (i * 2 + j) gg (-(recS gg nr i (recB gg nr (uew (sI S 8 gg (nI 2)) 6) i) j).2 (14 + (i * 2 + j)) gg)) i j gg nr (by first | assumption | omega) (RI_recS (RI_recB hS0 i) j).2.2) ⟨hx, hb, hml, hown, hts⟩ (cwV 3 hts (wa_gV wd_317 wd_318 wd_319 wd_5 wd_320) rfl rfl rfl (by decide +kernel) ⟨Nat.le_of_ble_eq_true rfl, Nat.le_of_ble_eq_true rfl⟩) hK hw hA 3 rfl rfl rfl rfl hl.1 rfl (Nat.le_of_ble_eq_true rfl) dX5_recover_55 ⟨Nat.zero_le _, Nat.zero_le _⟩ (fun r_5 S_5 H locs hp_5 hw => ?_)
              have e9 := hp_5.1.symm
              subst e9
              have e9 := hp_5.2.symm
              subst e9
              refine lv_ladd hx hb dX5_recover_58 ?_
              refine wo_vV (As := [.long (((recS gg nr i (recB gg nr (uew (sI S 8 gg (nI 2)) 6) i) j).2 (14 + (i * 2 + j)) gg) + ((cbk (addSh (recS gg nr i (recB gg nr (uew (sI S 8 gg (nI 2)) 6) i) j) (i * 2 + j) gg (-(recS gg nr i (recB gg nr (uew (sI S 8 gg (nI 2)) 6) i) j).2 (14 + (i * 2 + j)) gg)) i j gg nr).2))]) (rest := []) (kX4_split l dC dI ca ad ((cbk (addSh (recS gg nr i (recB gg nr (uew (sI S 8 gg (nI 2)) 6) i) j) (i * 2 + j) gg (-(recS gg nr i (recB gg nr (uew (sI S 8 gg (nI 2)) 6) i) j).2 (14 + (i * 2 + j)) gg)) i j gg nr).1) (((recS gg nr i (recB gg nr (uew (sI S 8 gg (nI 2)) 6) i) j).2 (14 + (i * 2 + j)) gg) + ((cbk (addSh (recS gg nr i (recB gg nr (uew (sI S 8 gg (nI 2)) 6) i) j) (i * 2 + j) gg (-(recS gg nr i (recB gg nr (uew (sI S 8 gg (nI 2)) 6) i) j).2 (14 + (i * 2 + j)) gg)) i j gg nr).2))) ⟨hx, hb, hml, hown, hts⟩ (cwV 1 hts (wa_gV wd_326 wd_327 wd_328 wd_7 wd_329) rfl rfl rfl (by decide +kernel) ⟨Nat.le_of_ble_eq_true rfl, Nat.le_of_ble_eq_true rfl⟩) hK hw hA 5 rfl rfl rfl rfl hl.1 rfl (Nat.le_of_ble_eq_true rfl) dX5_recover_59 ⟨Nat.zero_le _, Nat.zero_le _⟩ (fun S_6 H locs hp_6 hw => ?_)
              have eS_6 := hp_6
              have hX0 : RI nb nr S_6 := by rw [eS_6]; exact RI_eq (RI_cbk (RI_eq (RI_recS (RI_recB hS0 i) j) (addSh_1 _ _ _ _))) (splF_1 _ _)
              refine lv_iconst (v := nI 0) hx hb dX5_recover_62 (by decide) ?_
              refine lv_istore (lv' := [(4, .int (nI 0)), (0, .ref (ad 0)), (1, .int (nI gg)), (2, .int (nI i)), (3, .int (nI j))]) hx hb dX5_recover_63 hl (by decide) rfl (fun ls hl => ?_)
              have lp_65 : ∀ (n : Nat) (q : Nat), q ≤ 6 → 7 ≤ q + n → ∀ (H : Heap) (locs : List Loc) (ls : Array Slot), wo_w (dC, dI) vwCl A s.heap (wc ca ad (rcvP i j S_6 q)) H locs → lv_has ls 5 [(0, .ref (ad 0)), (1, .int (nI gg)), (2, .int (nI i)), (3, .int (nI j)), (4, .int (nI q))] → W p l e ({ frames := 4, cells := 0, slots := 0, locals := 98 } : Room) s m ([.ref (ad 0), .int (nI gg)] : List Value).toArray below meth c H locs 0 0 (MQ below (va_Qv (fun S2 => S2 = recF S gg nb nr) (ct_B (dC, dI) vwCl (tyl ca) (wc ca ad) A) A) ([.ref (ad 0), .int (nI gg)] : List Value).toArray s 0 0 A) (F0 m 65 ls []) := by
                intro n
                induction n with
                | zero =>
                  intro q hq hn
                  exfalso
                  omega
                | succ n ih_65 =>
                  intro q hq hn H locs ls hw hl
                  refine lv_iload hx hb dX5_recover_65 (lv_at hl 4 rfl) ?_
                  refine lv_bipush (v := nI 6) hx hb dX5_recover_67 (by decide) ?_
                  refine lv_icmp_ge (tgt := 96) hx hb dX5_recover_69 (by decide) (fun c_7 => ?_) (fun c_7 => ?_)
                  · skip
                    have c_7 : 6 ≤ q := (nI_leI (a := 6) (b := q) (by omega) (by omega)).mp c_7
                    obtain rfl : 6 = q := by omega
                    refine lv_iinc (v := nI (j + 1)) (lv' := [(3, .int (nI (j + 1))), (0, .ref (ad 0)), (1, .int (nI gg)), (2, .int (nI i)), (4, .int (nI 6))]) hx hb dX5_recover_96 hl (k := 3) rfl (nI_inc _) (by decide) rfl (fun ls hl => ?_)
                    refine lv_goto (tgt := 29) hx hb dX5_recover_99 (by decide) ?_
                    have e9 : rcvP i j S_6 6 = recS gg nr i (recB gg nr (uew (sI S 8 gg (nI 2)) 6) i) (j + 1) := by rw [eS_6]; rfl
                    rw [e9] at hw
                    exact ih_29 (j + 1) (by omega) (by omega) _ _ _ hw (lv_sub hl [1, 2, 3, 0] rfl)
                  · skip
                    have c_7 : ¬ (6 ≤ q) := fun h9 => c_7 ((nI_leI (a := 6) (b := q) (by omega) (by omega)).mpr h9)
                    refine lv_aload_n hx hb dX5_recover_72 rfl (lv_at hl 0 rfl) ?_
                    refine lv_iload_n hx hb dX5_recover_73 rfl (lv_at hl 2 rfl) ?_
                    refine lv_iload_n hx hb dX5_recover_74 rfl (lv_at hl 3 rfl) ?_
                    refine lv_iload hx hb dX5_recover_75 (lv_at hl 4 rfl) ?_
                    refine lv_aload_n hx hb dX5_recover_77 rfl (lv_at hl 0 rfl) ?_
                    refine wo_get hx hb hts inX5 hown hK hw 0 rfl rfl 4 (by decide) (hts _ wd_170) (fun _ h9 => h9) rfl dX5_recover_78 ?_
                    refine wo_get hx hb hts inX4 hown hK hw 5 rfl rfl 1 (by decide) (hts _ wd_157) (fun _ h9 => h9) rfl dX5_recover_81 ?_
                    refine lv_iload hx hb dX5_recover_84 (lv_at hl 4 rfl) ?_
                    refine wo_lald hx hb hK hw 50 1 rfl rfl q rfl (by first | assumption | omega) (by decide) dX5_recover_86 ?_
                    refine wo_vV (As := [.int (nI i), .int (nI j), .int (nI q), .long ((rcvP i j S_6 q).2 50 q)]) (rest := []) (kX5_receive l dC dI ca ad (rcvP i j S_6 q) i j q ((rcvP i j S_6 q).2 50 q) nb nr (by first | assumption | omega) (by first | assumption | omega) (by first | assumption | omega) (RI_rcvP hX0 q (by omega))) ⟨hx, hb, hml, hown, hts⟩ (cwV 4 hts (wa_gV wd_277 wd_279 ws_3 wd_1 wd_280) rfl rfl rfl (by decide +kernel) ⟨Nat.le_of_ble_eq_true rfl, Nat.le_of_ble_eq_true rfl⟩) hK hw hA 0 rfl rfl rfl rfl hl.1 rfl (Nat.le_of_ble_eq_true rfl) dX5_recover_87 ⟨Nat.zero_le _, Nat.zero_le _⟩ (fun S_8 H locs hp_8 hw => ?_)
                    have eS_8 := hp_8
                    refine lv_iinc (v := nI (q + 1)) (lv' := [(4, .int (nI (q + 1))), (0, .ref (ad 0)), (1, .int (nI gg)), (2, .int (nI i)), (3, .int (nI j))]) hx hb dX5_recover_90 hl (k := 4) rfl (nI_inc _) (by decide) rfl (fun ls hl => ?_)
                    refine lv_goto (tgt := 65) hx hb dX5_recover_93 (by decide) ?_
                    have e9 : S_8 = rcvP i j S_6 (q + 1) := by rw [eS_8]; rfl
                    rw [e9] at hw
                    exact ih_65 (q + 1) (by omega) (by omega) _ _ _ hw (lv_sub hl [1, 2, 3, 4, 0] rfl)
              have e9 : S_6 = rcvP i j S_6 0 := rfl
              rw [e9] at hw
              exact lp_65 7 0 (by omega) (by omega) _ _ _ hw (lv_sub hl [1, 2, 3, 4, 0] rfl)
        have e9 : recB gg nr (uew (sI S 8 gg (nI 2)) 6) i = recS gg nr i (recB gg nr (uew (sI S 8 gg (nI 2)) 6) i) 0 := rfl
        rw [e9] at hw
        exact lp_29 3 0 (by omega) (by omega) _ _ _ hw (lv_sub hl [1, 2, 3, 0] rfl)
  have e9 : uew (sI S 8 gg (nI 2)) 6 = recB gg nr (uew (sI S 8 gg (nI 2)) 6) 0 := rfl
  rw [e9] at hw
  exact lp_16 (nb + 1) 0 (by omega) (by omega) _ _ _ hw (lv_sub hl [1, 2, 0] rfl)
end
section
theorem dX5_weigh_0 : decode cX5_weigh 0 = .ok (.aload_n 0, 1) := by decide +kernel
theorem dX5_weigh_1 : decode cX5_weigh 1 = .ok (.getfield 10, 3) := by decide +kernel
theorem dX5_weigh_4 : decode cX5_weigh 4 = .ok (.iload_n 1, 1) := by decide +kernel
theorem dX5_weigh_5 : decode cX5_weigh 5 = .ok (.invokevirtual 44, 3) := by decide +kernel
theorem dX5_weigh_8 : decode cX5_weigh 8 = .ok (.ifCond .eq 17, 3) := by decide +kernel
theorem dX5_weigh_11 : decode cX5_weigh 11 = .ok (.lload_n 2, 1) := by decide +kernel
theorem dX5_weigh_12 : decode cX5_weigh 12 = .ok (.lconst 0, 1) := by decide +kernel
theorem dX5_weigh_13 : decode cX5_weigh 13 = .ok (.lcmp, 1) := by decide +kernel
theorem dX5_weigh_14 : decode cX5_weigh 14 = .ok (.ifCond .lt 11, 3) := by decide +kernel
theorem dX5_weigh_17 : decode cX5_weigh 17 = .ok (.lload_n 2, 1) := by decide +kernel
theorem dX5_weigh_18 : decode cX5_weigh 18 = .ok (.ldc2_w 48, 3) := by decide +kernel
theorem dX5_weigh_21 : decode cX5_weigh 21 = .ok (.lcmp, 1) := by decide +kernel
theorem dX5_weigh_22 : decode cX5_weigh 22 = .ok (.ifCond .le 5, 3) := by decide +kernel
theorem dX5_weigh_25 : decode cX5_weigh 25 = .ok (.iconst 0, 1) := by decide +kernel
theorem dX5_weigh_26 : decode cX5_weigh 26 = .ok (.ireturn, 1) := by decide +kernel
theorem dX5_weigh_27 : decode cX5_weigh 27 = .ok (.aload_n 0, 1) := by decide +kernel
theorem dX5_weigh_28 : decode cX5_weigh 28 = .ok (.getfield 10, 3) := by decide +kernel
theorem dX5_weigh_31 : decode cX5_weigh 31 = .ok (.getfield 50, 3) := by decide +kernel
theorem dX5_weigh_34 : decode cX5_weigh 34 = .ok (.iload_n 1, 1) := by decide +kernel
theorem dX5_weigh_35 : decode cX5_weigh 35 = .ok (.lload_n 2, 1) := by decide +kernel
theorem dX5_weigh_36 : decode cX5_weigh 36 = .ok (.lastore, 1) := by decide +kernel
theorem dX5_weigh_37 : decode cX5_weigh 37 = .ok (.iconst 1, 1) := by decide +kernel
theorem dX5_weigh_38 : decode cX5_weigh 38 = .ok (.ireturn, 1) := by decide +kernel

theorem dX5_patient_0 : decode cX5_patient 0 = .ok (.aload_n 0, 1) := by decide +kernel
theorem dX5_patient_1 : decode cX5_patient 1 = .ok (.getfield 10, 3) := by decide +kernel
theorem dX5_patient_4 : decode cX5_patient 4 = .ok (.iload_n 1, 1) := by decide +kernel
theorem dX5_patient_5 : decode cX5_patient 5 = .ok (.invokevirtual 44, 3) := by decide +kernel
theorem dX5_patient_8 : decode cX5_patient 8 = .ok (.ifCond .eq 16, 3) := by decide +kernel
theorem dX5_patient_11 : decode cX5_patient 11 = .ok (.aload_n 0, 1) := by decide +kernel
theorem dX5_patient_12 : decode cX5_patient 12 = .ok (.getfield 10, 3) := by decide +kernel
theorem dX5_patient_15 : decode cX5_patient 15 = .ok (.getfield 101, 3) := by decide +kernel
theorem dX5_patient_18 : decode cX5_patient 18 = .ok (.iload_n 1, 1) := by decide +kernel
theorem dX5_patient_19 : decode cX5_patient 19 = .ok (.baload, 1) := by decide +kernel
theorem dX5_patient_20 : decode cX5_patient 20 = .ok (.iload_n 2, 1) := by decide +kernel
theorem dX5_patient_21 : decode cX5_patient 21 = .ok (.if_icmp .ne 5, 3) := by decide +kernel
theorem dX5_patient_24 : decode cX5_patient 24 = .ok (.iconst 0, 1) := by decide +kernel
theorem dX5_patient_25 : decode cX5_patient 25 = .ok (.ireturn, 1) := by decide +kernel
theorem dX5_patient_26 : decode cX5_patient 26 = .ok (.aload_n 0, 1) := by decide +kernel
theorem dX5_patient_27 : decode cX5_patient 27 = .ok (.getfield 10, 3) := by decide +kernel
theorem dX5_patient_30 : decode cX5_patient 30 = .ok (.getfield 101, 3) := by decide +kernel
theorem dX5_patient_33 : decode cX5_patient 33 = .ok (.iload_n 1, 1) := by decide +kernel
theorem dX5_patient_34 : decode cX5_patient 34 = .ok (.iload_n 2, 1) := by decide +kernel
theorem dX5_patient_35 : decode cX5_patient 35 = .ok (.bastore, 1) := by decide +kernel
theorem dX5_patient_36 : decode cX5_patient 36 = .ok (.iconst 1, 1) := by decide +kernel
theorem dX5_patient_37 : decode cX5_patient 37 = .ok (.ireturn, 1) := by decide +kernel

theorem dX5_take_0 : decode cX5_take 0 = .ok (.aload_n 0, 1) := by decide +kernel
theorem dX5_take_1 : decode cX5_take 1 = .ok (.getfield 19, 3) := by decide +kernel
theorem dX5_take_4 : decode cX5_take 4 = .ok (.iload_n 1, 1) := by decide +kernel
theorem dX5_take_5 : decode cX5_take 5 = .ok (.invokevirtual 105, 3) := by decide +kernel
theorem dX5_take_8 : decode cX5_take 8 = .ok (.ifCond .eq 36, 3) := by decide +kernel
theorem dX5_take_11 : decode cX5_take 11 = .ok (.aload_n 0, 1) := by decide +kernel
theorem dX5_take_12 : decode cX5_take 12 = .ok (.getfield 10, 3) := by decide +kernel
theorem dX5_take_15 : decode cX5_take 15 = .ok (.iload_n 2, 1) := by decide +kernel
theorem dX5_take_16 : decode cX5_take 16 = .ok (.invokevirtual 44, 3) := by decide +kernel
theorem dX5_take_19 : decode cX5_take 19 = .ok (.ifCond .eq 25, 3) := by decide +kernel
theorem dX5_take_22 : decode cX5_take 22 = .ok (.lload_n 3, 1) := by decide +kernel
theorem dX5_take_23 : decode cX5_take 23 = .ok (.lconst 0, 1) := by decide +kernel
theorem dX5_take_24 : decode cX5_take 24 = .ok (.lcmp, 1) := by decide +kernel
theorem dX5_take_25 : decode cX5_take 25 = .ok (.ifCond .eq 19, 3) := by decide +kernel
theorem dX5_take_28 : decode cX5_take 28 = .ok (.lload_n 3, 1) := by decide +kernel
theorem dX5_take_29 : decode cX5_take 29 = .ok (.ldc2_w 108, 3) := by decide +kernel
theorem dX5_take_32 : decode cX5_take 32 = .ok (.lcmp, 1) := by decide +kernel
theorem dX5_take_33 : decode cX5_take 33 = .ok (.ifCond .lt 11, 3) := by decide +kernel
theorem dX5_take_36 : decode cX5_take 36 = .ok (.lload_n 3, 1) := by decide +kernel
theorem dX5_take_37 : decode cX5_take 37 = .ok (.ldc2_w 110, 3) := by decide +kernel
theorem dX5_take_40 : decode cX5_take 40 = .ok (.lcmp, 1) := by decide +kernel
theorem dX5_take_41 : decode cX5_take 41 = .ok (.ifCond .le 5, 3) := by decide +kernel
theorem dX5_take_44 : decode cX5_take 44 = .ok (.iconst (-1), 1) := by decide +kernel
theorem dX5_take_45 : decode cX5_take 45 = .ok (.ireturn, 1) := by decide +kernel
theorem dX5_take_46 : decode cX5_take 46 = .ok (.aload_n 0, 1) := by decide +kernel
theorem dX5_take_47 : decode cX5_take 47 = .ok (.getfield 19, 3) := by decide +kernel
theorem dX5_take_50 : decode cX5_take 50 = .ok (.iload_n 1, 1) := by decide +kernel
theorem dX5_take_51 : decode cX5_take 51 = .ok (.iload_n 2, 1) := by decide +kernel
theorem dX5_take_52 : decode cX5_take 52 = .ok (.lload_n 3, 1) := by decide +kernel
theorem dX5_take_53 : decode cX5_take 53 = .ok (.invokevirtual 112, 3) := by decide +kernel
theorem dX5_take_56 : decode cX5_take 56 = .ok (.ifCond .eq 15, 3) := by decide +kernel
theorem dX5_take_59 : decode cX5_take 59 = .ok (.aload_n 0, 1) := by decide +kernel
theorem dX5_take_60 : decode cX5_take 60 = .ok (.dup, 1) := by decide +kernel
theorem dX5_take_61 : decode cX5_take 61 = .ok (.getfield 116, 3) := by decide +kernel
theorem dX5_take_64 : decode cX5_take 64 = .ok (.iconst 1, 1) := by decide +kernel
theorem dX5_take_65 : decode cX5_take 65 = .ok (.iadd, 1) := by decide +kernel
theorem dX5_take_66 : decode cX5_take 66 = .ok (.putfield 116, 3) := by decide +kernel
theorem dX5_take_69 : decode cX5_take 69 = .ok (.iconst 1, 1) := by decide +kernel
theorem dX5_take_70 : decode cX5_take 70 = .ok (.ireturn, 1) := by decide +kernel
theorem dX5_take_71 : decode cX5_take 71 = .ok (.aload_n 0, 1) := by decide +kernel
theorem dX5_take_72 : decode cX5_take 72 = .ok (.getfield 10, 3) := by decide +kernel
theorem dX5_take_75 : decode cX5_take 75 = .ok (.getfield 101, 3) := by decide +kernel
theorem dX5_take_78 : decode cX5_take 78 = .ok (.iload_n 2, 1) := by decide +kernel
theorem dX5_take_79 : decode cX5_take 79 = .ok (.baload, 1) := by decide +kernel
theorem dX5_take_80 : decode cX5_take 80 = .ok (.ifCond .eq 18, 3) := by decide +kernel
theorem dX5_take_83 : decode cX5_take 83 = .ok (.aload_n 0, 1) := by decide +kernel
theorem dX5_take_84 : decode cX5_take 84 = .ok (.getfield 33, 3) := by decide +kernel
theorem dX5_take_87 : decode cX5_take 87 = .ok (.iload_n 2, 1) := by decide +kernel
theorem dX5_take_88 : decode cX5_take 88 = .ok (.iload_n 1, 1) := by decide +kernel
theorem dX5_take_89 : decode cX5_take 89 = .ok (.lload_n 3, 1) := by decide +kernel
theorem dX5_take_90 : decode cX5_take 90 = .ok (.invokevirtual 119, 3) := by decide +kernel
theorem dX5_take_93 : decode cX5_take 93 = .ok (.ifCond .eq 5, 3) := by decide +kernel
theorem dX5_take_96 : decode cX5_take 96 = .ok (.iconst 2, 1) := by decide +kernel
theorem dX5_take_97 : decode cX5_take 97 = .ok (.ireturn, 1) := by decide +kernel
theorem dX5_take_98 : decode cX5_take 98 = .ok (.aload_n 0, 1) := by decide +kernel
theorem dX5_take_99 : decode cX5_take 99 = .ok (.dup, 1) := by decide +kernel
theorem dX5_take_100 : decode cX5_take 100 = .ok (.getfield 122, 3) := by decide +kernel
theorem dX5_take_103 : decode cX5_take 103 = .ok (.iconst 1, 1) := by decide +kernel
theorem dX5_take_104 : decode cX5_take 104 = .ok (.iadd, 1) := by decide +kernel
theorem dX5_take_105 : decode cX5_take 105 = .ok (.putfield 122, 3) := by decide +kernel
theorem dX5_take_108 : decode cX5_take 108 = .ok (.iconst 0, 1) := by decide +kernel
theorem dX5_take_109 : decode cX5_take 109 = .ok (.ireturn, 1) := by decide +kernel

theorem dX5_lend_0 : decode cX5_lend 0 = .ok (.aload_n 0, 1) := by decide +kernel
theorem dX5_lend_1 : decode cX5_lend 1 = .ok (.iload_n 1, 1) := by decide +kernel
theorem dX5_lend_2 : decode cX5_lend 2 = .ok (.iload_n 2, 1) := by decide +kernel
theorem dX5_lend_3 : decode cX5_lend 3 = .ok (.iload 4, 2) := by decide +kernel
theorem dX5_lend_5 : decode cX5_lend 5 = .ok (.lload 5, 2) := by decide +kernel
theorem dX5_lend_7 : decode cX5_lend 7 = .ok (.invokevirtual 125, 3) := by decide +kernel
theorem dX5_lend_10 : decode cX5_lend 10 = .ok (.ifCond .eq 20, 3) := by decide +kernel
theorem dX5_lend_13 : decode cX5_lend 13 = .ok (.aload_n 0, 1) := by decide +kernel
theorem dX5_lend_14 : decode cX5_lend 14 = .ok (.getfield 10, 3) := by decide +kernel
theorem dX5_lend_17 : decode cX5_lend 17 = .ok (.iload_n 3, 1) := by decide +kernel
theorem dX5_lend_18 : decode cX5_lend 18 = .ok (.invokevirtual 44, 3) := by decide +kernel
theorem dX5_lend_21 : decode cX5_lend 21 = .ok (.ifCond .eq 9, 3) := by decide +kernel
theorem dX5_lend_24 : decode cX5_lend 24 = .ok (.iload_n 3, 1) := by decide +kernel
theorem dX5_lend_25 : decode cX5_lend 25 = .ok (.iload 4, 2) := by decide +kernel
theorem dX5_lend_27 : decode cX5_lend 27 = .ok (.if_icmp .ne 5, 3) := by decide +kernel
theorem dX5_lend_30 : decode cX5_lend 30 = .ok (.iconst (-1), 1) := by decide +kernel
theorem dX5_lend_31 : decode cX5_lend 31 = .ok (.ireturn, 1) := by decide +kernel
theorem dX5_lend_32 : decode cX5_lend 32 = .ok (.aload_n 0, 1) := by decide +kernel
theorem dX5_lend_33 : decode cX5_lend 33 = .ok (.getfield 19, 3) := by decide +kernel
theorem dX5_lend_36 : decode cX5_lend 36 = .ok (.iload_n 1, 1) := by decide +kernel
theorem dX5_lend_37 : decode cX5_lend 37 = .ok (.iload_n 2, 1) := by decide +kernel
theorem dX5_lend_38 : decode cX5_lend 38 = .ok (.iload_n 3, 1) := by decide +kernel
theorem dX5_lend_39 : decode cX5_lend 39 = .ok (.invokevirtual 129, 3) := by decide +kernel
theorem dX5_lend_42 : decode cX5_lend 42 = .ok (.lload 5, 2) := by decide +kernel
theorem dX5_lend_44 : decode cX5_lend 44 = .ok (.lcmp, 1) := by decide +kernel
theorem dX5_lend_45 : decode cX5_lend 45 = .ok (.ifCond .ge 5, 3) := by decide +kernel
theorem dX5_lend_48 : decode cX5_lend 48 = .ok (.iconst 0, 1) := by decide +kernel
theorem dX5_lend_49 : decode cX5_lend 49 = .ok (.ireturn, 1) := by decide +kernel
theorem dX5_lend_50 : decode cX5_lend 50 = .ok (.aload_n 0, 1) := by decide +kernel
theorem dX5_lend_51 : decode cX5_lend 51 = .ok (.iload_n 1, 1) := by decide +kernel
theorem dX5_lend_52 : decode cX5_lend 52 = .ok (.iload_n 2, 1) := by decide +kernel
theorem dX5_lend_53 : decode cX5_lend 53 = .ok (.iload_n 3, 1) := by decide +kernel
theorem dX5_lend_54 : decode cX5_lend 54 = .ok (.iload 4, 2) := by decide +kernel
theorem dX5_lend_56 : decode cX5_lend 56 = .ok (.lload 5, 2) := by decide +kernel
theorem dX5_lend_58 : decode cX5_lend 58 = .ok (.invokevirtual 133, 3) := by decide +kernel
theorem dX5_lend_61 : decode cX5_lend 61 = .ok (.ireturn, 1) := by decide +kernel

theorem dX5_ask_0 : decode cX5_ask 0 = .ok (.aload_n 0, 1) := by decide +kernel
theorem dX5_ask_1 : decode cX5_ask 1 = .ok (.iload_n 1, 1) := by decide +kernel
theorem dX5_ask_2 : decode cX5_ask 2 = .ok (.iload_n 2, 1) := by decide +kernel
theorem dX5_ask_3 : decode cX5_ask 3 = .ok (.iload_n 3, 1) := by decide +kernel
theorem dX5_ask_4 : decode cX5_ask 4 = .ok (.lload 4, 2) := by decide +kernel
theorem dX5_ask_6 : decode cX5_ask 6 = .ok (.invokevirtual 125, 3) := by decide +kernel
theorem dX5_ask_9 : decode cX5_ask 9 = .ok (.ifCond .ne 5, 3) := by decide +kernel
theorem dX5_ask_12 : decode cX5_ask 12 = .ok (.iconst (-1), 1) := by decide +kernel
theorem dX5_ask_13 : decode cX5_ask 13 = .ok (.ireturn, 1) := by decide +kernel
theorem dX5_ask_14 : decode cX5_ask 14 = .ok (.aload_n 0, 1) := by decide +kernel
theorem dX5_ask_15 : decode cX5_ask 15 = .ok (.iload_n 1, 1) := by decide +kernel
theorem dX5_ask_16 : decode cX5_ask 16 = .ok (.iload_n 2, 1) := by decide +kernel
theorem dX5_ask_17 : decode cX5_ask 17 = .ok (.iload_n 3, 1) := by decide +kernel
theorem dX5_ask_18 : decode cX5_ask 18 = .ok (.invokevirtual 137, 3) := by decide +kernel
theorem dX5_ask_21 : decode cX5_ask 21 = .ok (.istore 6, 2) := by decide +kernel
theorem dX5_ask_23 : decode cX5_ask 23 = .ok (.iload 6, 2) := by decide +kernel
theorem dX5_ask_25 : decode cX5_ask 25 = .ok (.iconst (-1), 1) := by decide +kernel
theorem dX5_ask_26 : decode cX5_ask 26 = .ok (.if_icmp .ne 5, 3) := by decide +kernel
theorem dX5_ask_29 : decode cX5_ask 29 = .ok (.iconst 0, 1) := by decide +kernel
theorem dX5_ask_30 : decode cX5_ask 30 = .ok (.ireturn, 1) := by decide +kernel
theorem dX5_ask_31 : decode cX5_ask 31 = .ok (.aload_n 0, 1) := by decide +kernel
theorem dX5_ask_32 : decode cX5_ask 32 = .ok (.iload_n 1, 1) := by decide +kernel
theorem dX5_ask_33 : decode cX5_ask 33 = .ok (.iload_n 2, 1) := by decide +kernel
theorem dX5_ask_34 : decode cX5_ask 34 = .ok (.iload 6, 2) := by decide +kernel
theorem dX5_ask_36 : decode cX5_ask 36 = .ok (.iload_n 3, 1) := by decide +kernel
theorem dX5_ask_37 : decode cX5_ask 37 = .ok (.lload 4, 2) := by decide +kernel
theorem dX5_ask_39 : decode cX5_ask 39 = .ok (.aload_n 0, 1) := by decide +kernel
theorem dX5_ask_40 : decode cX5_ask 40 = .ok (.getfield 19, 3) := by decide +kernel
theorem dX5_ask_43 : decode cX5_ask 43 = .ok (.iload_n 1, 1) := by decide +kernel
theorem dX5_ask_44 : decode cX5_ask 44 = .ok (.iload_n 2, 1) := by decide +kernel
theorem dX5_ask_45 : decode cX5_ask 45 = .ok (.iload 6, 2) := by decide +kernel
theorem dX5_ask_47 : decode cX5_ask 47 = .ok (.invokevirtual 129, 3) := by decide +kernel
theorem dX5_ask_50 : decode cX5_ask 50 = .ok (.invokestatic 141, 3) := by decide +kernel
theorem dX5_ask_53 : decode cX5_ask 53 = .ok (.invokevirtual 133, 3) := by decide +kernel
theorem dX5_ask_56 : decode cX5_ask 56 = .ok (.ireturn, 1) := by decide +kernel

set_option maxHeartbeats 4000000 in
set_option maxRecDepth 100000 in
theorem kX5_weigh (l : Launch) (dC : Nat → ClassId) (dI : Nat → Nat → Nat) (ca : Nat → ClassId) (ad : Nat → Nat) (S : sSt) (pp : Int32) (ww : Int64) : ct_I l yX5_weigh (Cond.code yX5_weigh cX5_weigh 4 (some .boolean) :: wa_T) ({ frames := 2, cells := 0, slots := 0, locals := 41 } : Room) (dC, dI) vwCl (tyl ca) (wc ca ad) S [.ref (ad 0), .int pp, .long ww] (fun r S2 => r = bI (wgOk S pp ww) ∧ S2 = (if wgOk S pp ww = true then sL S 6 pp.toNatClampNeg ww else S)) := by
  refine ct_ofI (by decide) (Nat.le_of_ble_eq_true rfl) ?_
  intro p e s m below meth c A ls hx hb hr hml hts hown hlocks hK hA hw hl
  have hl : lv_has ls 4 [(0, .ref (ad 0)), (1, .int pp), (2, .long ww)] := hl
  refine lv_aload_n hx hb dX5_weigh_0 rfl (lv_at hl 0 rfl) ?_
  refine wo_get hx hb hts inX5 hown hK hw 0 rfl rfl 0 (by decide) (hts _ wd_166) (fun _ h9 => h9) rfl dX5_weigh_1 ?_
  refine lv_iload_n hx hb dX5_weigh_4 rfl (lv_at hl 1 rfl) ?_
  refine wo_vI (As := [.int pp]) (rest := []) (kX1_isWell l dC dI ca ad S pp) ⟨hx, hb, hml, hown, hts⟩ (cwV 1 hts (wa_gV wd_192 wd_193 wd_194 wd_2 wd_195) rfl rfl rfl (by decide +kernel) ⟨Nat.le_of_ble_eq_true rfl, Nat.le_of_ble_eq_true rfl⟩) hK hw hA 1 rfl rfl rfl rfl hl.1 rfl (Nat.le_of_ble_eq_true rfl) dX5_weigh_5 ⟨Nat.zero_le _, Nat.zero_le _⟩ (fun r_1 S_1 H locs hp_1 hw => ?_)
  have e9 := hp_1.1.symm
  subst e9
  have e9 := hp_1.2.symm
  subst e9
  refine lv_if_eq (tgt := 25) hx hb dX5_weigh_8 (by decide) (fun c_2 => ?_) (fun c_2 => ?_)
  · skip
    have c_2 : wl S pp = false := nb_0 c_2
    refine lv_iconst (v := nI 0) hx hb dX5_weigh_25 (by decide) ?_
    exact ct_zret (S := S) (v := nI 0) hx hb hr hlocks hK (by first | decide | exact nb_z _) hw (⟨by simp only [bI, wgOk, c_2, decide_true, decide_false, Bool.not_true, Bool.not_false, Bool.true_and, Bool.and_true, Bool.false_and, Bool.and_false, Bool.or_true, Bool.true_or, Bool.or_false, Bool.false_or, Bool.false_eq_true, Bool.true_eq_false, if_true, if_false, ↓reduceIte], by simp only [wgOk, c_2, decide_true, decide_false, Bool.not_true, Bool.not_false, Bool.true_and, Bool.and_true, Bool.false_and, Bool.and_false, Bool.or_true, Bool.true_or, Bool.or_false, Bool.false_or, Bool.false_eq_true, Bool.true_eq_false, if_true, if_false, ↓reduceIte]⟩) dX5_weigh_26
  · skip
    have c_2 : wl S pp = true := nb_1 c_2
    obtain ⟨p9, hp9, rfl⟩ := wl_n c_2
    have ec_p9 := nI_clamp (n := p9) (by omega)
    refine lv_lload_n hx hb dX5_weigh_11 rfl (lv_at hl 2 rfl) ?_
    refine lv_lconst (v := 0) hx hb dX5_weigh_12 (by decide) ?_
    refine lc_lt (tgt := 25) hx hb dX5_weigh_13 dX5_weigh_14 (by decide) (fun c_3 => ?_) (fun c_3 => ?_)
    · skip
      refine lv_iconst (v := nI 0) hx hb dX5_weigh_25 (by decide) ?_
      exact ct_zret (S := S) (v := nI 0) hx hb hr hlocks hK (by first | decide | exact nb_z _) hw (⟨by simp only [bI, wgOk, c_2, ec_p9, c_3, decide_true, decide_false, Bool.not_true, Bool.not_false, Bool.true_and, Bool.and_true, Bool.false_and, Bool.and_false, Bool.or_true, Bool.true_or, Bool.or_false, Bool.false_or, Bool.false_eq_true, Bool.true_eq_false, if_true, if_false, ↓reduceIte], by simp only [wgOk, c_2, ec_p9, c_3, decide_true, decide_false, Bool.not_true, Bool.not_false, Bool.true_and, Bool.and_true, Bool.false_and, Bool.and_false, Bool.or_true, Bool.true_or, Bool.or_false, Bool.false_or, Bool.false_eq_true, Bool.true_eq_false, if_true, if_false, ↓reduceIte]⟩) dX5_weigh_26
    · skip
      refine lv_lload_n hx hb dX5_weigh_17 rfl (lv_at hl 2 rfl) ?_
      refine lv_ldc2 hx hb hown (hts _ wd_199) dX5_weigh_18 ?_
      refine lc_le (tgt := 27) hx hb dX5_weigh_21 dX5_weigh_22 (by decide) (fun c_4 => ?_) (fun c_4 => ?_)
      · skip
        refine lv_aload_n hx hb dX5_weigh_27 rfl (lv_at hl 0 rfl) ?_
        refine wo_get hx hb hts inX5 hown hK hw 0 rfl rfl 0 (by decide) (hts _ wd_166) (fun _ h9 => h9) rfl dX5_weigh_28 ?_
        refine wo_get hx hb hts inX1 hown hK hw 1 rfl rfl 0 (by decide) (hts _ wd_36) (fun _ h9 => h9) rfl dX5_weigh_31 ?_
        refine lv_iload_n hx hb dX5_weigh_34 rfl (lv_at hl 1 rfl) ?_
        refine lv_lload_n hx hb dX5_weigh_35 rfl (lv_at hl 2 rfl) ?_
        refine wo_last hx hb hK hw 6 1 rfl rfl p9 rfl (by first | assumption | omega) (by decide) (se_6 ca ad S p9 ww) dX5_weigh_36 (fun H locs hw => ?_)
        refine lv_iconst (v := nI 1) hx hb dX5_weigh_37 (by decide) ?_
        exact ct_zret (S := sL S 6 p9 ww) (v := nI 1) hx hb hr hlocks hK (by first | decide | exact nb_z _) hw (⟨by simp only [bI, wgOk, c_2, ec_p9, c_3, c_4, decide_true, decide_false, Bool.not_true, Bool.not_false, Bool.true_and, Bool.and_true, Bool.false_and, Bool.and_false, Bool.or_true, Bool.true_or, Bool.or_false, Bool.false_or, Bool.false_eq_true, Bool.true_eq_false, if_true, if_false, ↓reduceIte], by simp only [wgOk, c_2, ec_p9, c_3, c_4, decide_true, decide_false, Bool.not_true, Bool.not_false, Bool.true_and, Bool.and_true, Bool.false_and, Bool.and_false, Bool.or_true, Bool.true_or, Bool.or_false, Bool.false_or, Bool.false_eq_true, Bool.true_eq_false, if_true, if_false, ↓reduceIte]⟩) dX5_weigh_38
      · skip
        refine lv_iconst (v := nI 0) hx hb dX5_weigh_25 (by decide) ?_
        exact ct_zret (S := S) (v := nI 0) hx hb hr hlocks hK (by first | decide | exact nb_z _) hw (⟨by simp only [bI, wgOk, c_2, ec_p9, c_3, c_4, decide_true, decide_false, Bool.not_true, Bool.not_false, Bool.true_and, Bool.and_true, Bool.false_and, Bool.and_false, Bool.or_true, Bool.true_or, Bool.or_false, Bool.false_or, Bool.false_eq_true, Bool.true_eq_false, if_true, if_false, ↓reduceIte], by simp only [wgOk, c_2, ec_p9, c_3, c_4, decide_true, decide_false, Bool.not_true, Bool.not_false, Bool.true_and, Bool.and_true, Bool.false_and, Bool.and_false, Bool.or_true, Bool.true_or, Bool.or_false, Bool.false_or, Bool.false_eq_true, Bool.true_eq_false, if_true, if_false, ↓reduceIte]⟩) dX5_weigh_26

set_option maxHeartbeats 4000000 in
set_option maxRecDepth 100000 in
theorem kX5_patient (l : Launch) (dC : Nat → ClassId) (dI : Nat → Nat → Nat) (ca : Nat → ClassId) (ad : Nat → Nat) (S : sSt) (pp : Int32) (b0 : Bool) : ct_I l yX5_patient (Cond.code yX5_patient cX5_patient 3 (some .boolean) :: wa_T) ({ frames := 2, cells := 0, slots := 0, locals := 41 } : Room) (dC, dI) vwCl (tyl ca) (wc ca ad) S [.ref (ad 0), .int pp, .int (bI b0)] (fun r S2 => r = bI (ptOk S pp b0) ∧ S2 = (if ptOk S pp b0 = true then sI S 7 pp.toNatClampNeg (bI b0) else S)) := by
  refine ct_ofI (by decide) (Nat.le_of_ble_eq_true rfl) ?_
  intro p e s m below meth c A ls hx hb hr hml hts hown hlocks hK hA hw hl
  have hl : lv_has ls 3 [(0, .ref (ad 0)), (1, .int pp), (2, .int (bI b0))] := hl
  refine lv_aload_n hx hb dX5_patient_0 rfl (lv_at hl 0 rfl) ?_
  refine wo_get hx hb hts inX5 hown hK hw 0 rfl rfl 0 (by decide) (hts _ wd_166) (fun _ h9 => h9) rfl dX5_patient_1 ?_
  refine lv_iload_n hx hb dX5_patient_4 rfl (lv_at hl 1 rfl) ?_
  refine wo_vI (As := [.int pp]) (rest := []) (kX1_isWell l dC dI ca ad S pp) ⟨hx, hb, hml, hown, hts⟩ (cwV 1 hts (wa_gV wd_192 wd_193 wd_194 wd_2 wd_195) rfl rfl rfl (by decide +kernel) ⟨Nat.le_of_ble_eq_true rfl, Nat.le_of_ble_eq_true rfl⟩) hK hw hA 1 rfl rfl rfl rfl hl.1 rfl (Nat.le_of_ble_eq_true rfl) dX5_patient_5 ⟨Nat.zero_le _, Nat.zero_le _⟩ (fun r_1 S_1 H locs hp_1 hw => ?_)
  have e9 := hp_1.1.symm
  subst e9
  have e9 := hp_1.2.symm
  subst e9
  refine lv_if_eq (tgt := 24) hx hb dX5_patient_8 (by decide) (fun c_2 => ?_) (fun c_2 => ?_)
  · skip
    have c_2 : wl S pp = false := nb_0 c_2
    refine lv_iconst (v := nI 0) hx hb dX5_patient_24 (by decide) ?_
    exact ct_zret (S := S) (v := nI 0) hx hb hr hlocks hK (by first | decide | exact nb_z _) hw (⟨by simp only [ptOk, c_2, decide_true, decide_false, Bool.not_true, Bool.not_false, Bool.true_and, Bool.and_true, Bool.false_and, Bool.and_false, Bool.or_true, Bool.true_or, Bool.or_false, Bool.false_or, Bool.false_eq_true, Bool.true_eq_false, if_true, if_false, ↓reduceIte]; rfl, by simp only [ptOk, c_2, decide_true, decide_false, Bool.not_true, Bool.not_false, Bool.true_and, Bool.and_true, Bool.false_and, Bool.and_false, Bool.or_true, Bool.true_or, Bool.or_false, Bool.false_or, Bool.false_eq_true, Bool.true_eq_false, if_true, if_false, ↓reduceIte]⟩) dX5_patient_25
  · skip
    have c_2 : wl S pp = true := nb_1 c_2
    obtain ⟨p9, hp9, rfl⟩ := wl_n c_2
    have ec_p9 := nI_clamp (n := p9) (by omega)
    refine lv_aload_n hx hb dX5_patient_11 rfl (lv_at hl 0 rfl) ?_
    refine wo_get hx hb hts inX5 hown hK hw 0 rfl rfl 0 (by decide) (hts _ wd_166) (fun _ h9 => h9) rfl dX5_patient_12 ?_
    refine wo_get hx hb hts inX1 hown hK hw 1 rfl rfl 1 (by decide) (hts _ wd_38) (fun _ h9 => h9) rfl dX5_patient_15 ?_
    refine lv_iload_n hx hb dX5_patient_18 rfl (lv_at hl 1 rfl) ?_
    refine wo_zald hx hb hK hw 7 2 rfl rfl p9 rfl (by first | assumption | omega) (by decide) dX5_patient_19 ?_
    refine lv_iload_n hx hb dX5_patient_20 rfl (lv_at hl 2 rfl) ?_
    refine lv_icmp_ne (tgt := 26) hx hb dX5_patient_21 (by decide) (fun c_3 => ?_) (fun c_3 => ?_)
    · skip
      refine lv_aload_n hx hb dX5_patient_26 rfl (lv_at hl 0 rfl) ?_
      refine wo_get hx hb hts inX5 hown hK hw 0 rfl rfl 0 (by decide) (hts _ wd_166) (fun _ h9 => h9) rfl dX5_patient_27 ?_
      refine wo_get hx hb hts inX1 hown hK hw 1 rfl rfl 1 (by decide) (hts _ wd_38) (fun _ h9 => h9) rfl dX5_patient_30 ?_
      refine lv_iload_n hx hb dX5_patient_33 rfl (lv_at hl 1 rfl) ?_
      refine lv_iload_n hx hb dX5_patient_34 rfl (lv_at hl 2 rfl) ?_
      refine wo_zast hx hb hK hw 7 2 rfl rfl p9 rfl (by first | assumption | omega) (by decide) (by first | decide | assumption | exact nb_v _) (se_7 ca ad S p9 (bI b0)) dX5_patient_35 (fun H locs hw => ?_)
      refine lv_iconst (v := nI 1) hx hb dX5_patient_36 (by decide) ?_
      exact ct_zret (S := sI S 7 p9 (bI b0)) (v := nI 1) hx hb hr hlocks hK (by first | decide | exact nb_z _) hw (⟨by simp only [ptOk, c_2, ec_p9, c_3, decide_true, decide_false, Bool.not_true, Bool.not_false, Bool.true_and, Bool.and_true, Bool.false_and, Bool.and_false, Bool.or_true, Bool.true_or, Bool.or_false, Bool.false_or, Bool.false_eq_true, Bool.true_eq_false, if_true, if_false, ↓reduceIte]; rfl, by simp only [ptOk, c_2, ec_p9, c_3, decide_true, decide_false, Bool.not_true, Bool.not_false, Bool.true_and, Bool.and_true, Bool.false_and, Bool.and_false, Bool.or_true, Bool.true_or, Bool.or_false, Bool.false_or, Bool.false_eq_true, Bool.true_eq_false, if_true, if_false, ↓reduceIte]⟩) dX5_patient_37
    · skip
      refine lv_iconst (v := nI 0) hx hb dX5_patient_24 (by decide) ?_
      exact ct_zret (S := S) (v := nI 0) hx hb hr hlocks hK (by first | decide | exact nb_z _) hw (⟨by simp only [ptOk, c_2, ec_p9, c_3, decide_true, decide_false, Bool.not_true, Bool.not_false, Bool.true_and, Bool.and_true, Bool.false_and, Bool.and_false, Bool.or_true, Bool.true_or, Bool.or_false, Bool.false_or, Bool.false_eq_true, Bool.true_eq_false, if_true, if_false, ↓reduceIte]; rfl, by simp only [ptOk, c_2, ec_p9, c_3, decide_true, decide_false, Bool.not_true, Bool.not_false, Bool.true_and, Bool.and_true, Bool.false_and, Bool.and_false, Bool.or_true, Bool.true_or, Bool.or_false, Bool.false_or, Bool.false_eq_true, Bool.true_eq_false, if_true, if_false, ↓reduceIte]⟩) dX5_patient_25

set_option maxHeartbeats 4000000 in
set_option maxRecDepth 100000 in
theorem kX5_take (l : Launch) (dC : Nat → ClassId) (dI : Nat → Nat → Nat) (ca : Nat → ClassId) (ad : Nat → Nat) (S : sSt) (bb : Int32) (pp : Int32) (vv : Int64) (nb : Nat) (nr : Nat) (hb6 : nb ≤ 6) (hr2 : nr ≤ 200) (hri : RI nb nr S) : ct_I l yX5_take (Cond.code yX5_take cX5_take 5 (some .int) :: wa_T) ({ frames := 2, cells := 0, slots := 0, locals := 51 } : Room) (dC, dI) vwCl (tyl ca) (wc ca ad) S [.ref (ad 0), .int bb, .int pp, .long vv] (fun r S2 => r = (tkF S bb pp vv).1 ∧ S2 = (tkF S bb pp vv).2) := by
  refine ct_ofI (by decide) (Nat.le_of_ble_eq_true rfl) ?_
  intro p e s m below meth c A ls hx hb hr hml hts hown hlocks hK hA hw hl
  have hl : lv_has ls 5 [(0, .ref (ad 0)), (1, .int bb), (2, .int pp), (3, .long vv)] := hl
  refine lv_aload_n hx hb dX5_take_0 rfl (lv_at hl 0 rfl) ?_
  refine wo_get hx hb hts inX5 hown hK hw 0 rfl rfl 1 (by decide) (hts _ wd_167) (fun _ h9 => h9) rfl dX5_take_1 ?_
  refine lv_iload_n hx hb dX5_take_4 rfl (lv_at hl 1 rfl) ?_
  refine wo_vI (As := [.int bb]) (rest := []) (kX0_has l dC dI ca ad S bb) ⟨hx, hb, hml, hown, hts⟩ (cwV 1 hts (wa_gV wd_208 wd_209 wd_210 wd_4 wd_211) rfl rfl rfl (by decide +kernel) ⟨Nat.le_of_ble_eq_true rfl, Nat.le_of_ble_eq_true rfl⟩) hK hw hA 2 rfl rfl rfl rfl hl.1 rfl (Nat.le_of_ble_eq_true rfl) dX5_take_5 ⟨Nat.zero_le _, Nat.zero_le _⟩ (fun r_1 S_1 H locs hp_1 hw => ?_)
  have e9 := hp_1.1.symm
  subst e9
  have e9 := hp_1.2.symm
  subst e9
  refine lv_if_eq (tgt := 44) hx hb dX5_take_8 (by decide) (fun c_2 => ?_) (fun c_2 => ?_)
  · skip
    have c_2 : hbd S bb = false := nb_0 c_2
    refine lv_iconst (v := (-1)) hx hb dX5_take_44 (by decide) ?_
    exact ct_iret (S := S) (v := (-1)) hx hb hr hlocks hK hw (⟨by simp only [tkF, tkG, tkR, dnS, rfS, c_2, decide_true, decide_false, Bool.not_true, Bool.not_false, Bool.true_and, Bool.and_true, Bool.false_and, Bool.and_false, Bool.or_true, Bool.true_or, Bool.or_false, Bool.false_or, Bool.false_eq_true, Bool.true_eq_false, if_true, if_false, ↓reduceIte], by simp only [tkF, tkG, tkR, dnS, rfS, c_2, decide_true, decide_false, Bool.not_true, Bool.not_false, Bool.true_and, Bool.and_true, Bool.false_and, Bool.and_false, Bool.or_true, Bool.true_or, Bool.or_false, Bool.false_or, Bool.false_eq_true, Bool.true_eq_false, if_true, if_false, ↓reduceIte]⟩) dX5_take_45
  · skip
    have c_2 : hbd S bb = true := nb_1 c_2
    obtain ⟨b9, hb9, rfl⟩ := hbd_n hri.2.1 hb6 c_2
    have ec_b9 := nI_clamp (n := b9) (by omega)
    refine lv_aload_n hx hb dX5_take_11 rfl (lv_at hl 0 rfl) ?_
    refine wo_get hx hb hts inX5 hown hK hw 0 rfl rfl 0 (by decide) (hts _ wd_166) (fun _ h9 => h9) rfl dX5_take_12 ?_
    refine lv_iload_n hx hb dX5_take_15 rfl (lv_at hl 2 rfl) ?_
    refine wo_vI (As := [.int pp]) (rest := []) (kX1_isWell l dC dI ca ad S pp) ⟨hx, hb, hml, hown, hts⟩ (cwV 1 hts (wa_gV wd_192 wd_193 wd_194 wd_2 wd_195) rfl rfl rfl (by decide +kernel) ⟨Nat.le_of_ble_eq_true rfl, Nat.le_of_ble_eq_true rfl⟩) hK hw hA 1 rfl rfl rfl rfl hl.1 rfl (Nat.le_of_ble_eq_true rfl) dX5_take_16 ⟨Nat.zero_le _, Nat.zero_le _⟩ (fun r_3 S_3 H locs hp_3 hw => ?_)
    have e9 := hp_3.1.symm
    subst e9
    have e9 := hp_3.2.symm
    subst e9
    refine lv_if_eq (tgt := 44) hx hb dX5_take_19 (by decide) (fun c_4 => ?_) (fun c_4 => ?_)
    · skip
      have c_4 : wl S pp = false := nb_0 c_4
      refine lv_iconst (v := (-1)) hx hb dX5_take_44 (by decide) ?_
      exact ct_iret (S := S) (v := (-1)) hx hb hr hlocks hK hw (⟨by simp only [tkF, tkG, tkR, dnS, rfS, c_2, ec_b9, c_4, decide_true, decide_false, Bool.not_true, Bool.not_false, Bool.true_and, Bool.and_true, Bool.false_and, Bool.and_false, Bool.or_true, Bool.true_or, Bool.or_false, Bool.false_or, Bool.false_eq_true, Bool.true_eq_false, if_true, if_false, ↓reduceIte], by simp only [tkF, tkG, tkR, dnS, rfS, c_2, ec_b9, c_4, decide_true, decide_false, Bool.not_true, Bool.not_false, Bool.true_and, Bool.and_true, Bool.false_and, Bool.and_false, Bool.or_true, Bool.true_or, Bool.or_false, Bool.false_or, Bool.false_eq_true, Bool.true_eq_false, if_true, if_false, ↓reduceIte]⟩) dX5_take_45
    · skip
      have c_4 : wl S pp = true := nb_1 c_4
      obtain ⟨p9, hp9, rfl⟩ := wl_n c_4
      have ec_p9 := nI_clamp (n := p9) (by omega)
      refine lv_lload_n hx hb dX5_take_22 rfl (lv_at hl 3 rfl) ?_
      refine lv_lconst (v := 0) hx hb dX5_take_23 (by decide) ?_
      refine lc_eq (tgt := 44) hx hb dX5_take_24 dX5_take_25 (by decide) (fun c_5 => ?_) (fun c_5 => ?_)
      · skip
        refine lv_iconst (v := (-1)) hx hb dX5_take_44 (by decide) ?_
        exact ct_iret (S := S) (v := (-1)) hx hb hr hlocks hK hw (⟨by simp only [tkF, tkG, tkR, dnS, rfS, c_2, ec_b9, c_4, ec_p9, c_5, decide_true, decide_false, Bool.not_true, Bool.not_false, Bool.true_and, Bool.and_true, Bool.false_and, Bool.and_false, Bool.or_true, Bool.true_or, Bool.or_false, Bool.false_or, Bool.false_eq_true, Bool.true_eq_false, if_true, if_false, ↓reduceIte], by simp only [tkF, tkG, tkR, dnS, rfS, c_2, ec_b9, c_4, ec_p9, c_5, decide_true, decide_false, Bool.not_true, Bool.not_false, Bool.true_and, Bool.and_true, Bool.false_and, Bool.and_false, Bool.or_true, Bool.true_or, Bool.or_false, Bool.false_or, Bool.false_eq_true, Bool.true_eq_false, if_true, if_false, ↓reduceIte]⟩) dX5_take_45
      · skip
        refine lv_lload_n hx hb dX5_take_28 rfl (lv_at hl 3 rfl) ?_
        refine lv_ldc2 hx hb hown (hts _ wd_212) dX5_take_29 ?_
        refine lc_lt (tgt := 44) hx hb dX5_take_32 dX5_take_33 (by decide) (fun c_6 => ?_) (fun c_6 => ?_)
        · skip
          refine lv_iconst (v := (-1)) hx hb dX5_take_44 (by decide) ?_
          exact ct_iret (S := S) (v := (-1)) hx hb hr hlocks hK hw (⟨by simp only [tkF, tkG, tkR, dnS, rfS, c_2, ec_b9, c_4, ec_p9, c_5, c_6, decide_true, decide_false, Bool.not_true, Bool.not_false, Bool.true_and, Bool.and_true, Bool.false_and, Bool.and_false, Bool.or_true, Bool.true_or, Bool.or_false, Bool.false_or, Bool.false_eq_true, Bool.true_eq_false, if_true, if_false, ↓reduceIte], by simp only [tkF, tkG, tkR, dnS, rfS, c_2, ec_b9, c_4, ec_p9, c_5, c_6, decide_true, decide_false, Bool.not_true, Bool.not_false, Bool.true_and, Bool.and_true, Bool.false_and, Bool.and_false, Bool.or_true, Bool.true_or, Bool.or_false, Bool.false_or, Bool.false_eq_true, Bool.true_eq_false, if_true, if_false, ↓reduceIte]⟩) dX5_take_45
        · skip
          refine lv_lload_n hx hb dX5_take_36 rfl (lv_at hl 3 rfl) ?_
          refine lv_ldc2 hx hb hown (hts _ wd_213) dX5_take_37 ?_
          refine lc_le (tgt := 46) hx hb dX5_take_40 dX5_take_41 (by decide) (fun c_7 => ?_) (fun c_7 => ?_)
          · skip
            refine lv_aload_n hx hb dX5_take_46 rfl (lv_at hl 0 rfl) ?_
            refine wo_get hx hb hts inX5 hown hK hw 0 rfl rfl 1 (by decide) (hts _ wd_167) (fun _ h9 => h9) rfl dX5_take_47 ?_
            refine lv_iload_n hx hb dX5_take_50 rfl (lv_at hl 1 rfl) ?_
            refine lv_iload_n hx hb dX5_take_51 rfl (lv_at hl 2 rfl) ?_
            refine lv_lload_n hx hb dX5_take_52 rfl (lv_at hl 3 rfl) ?_
            refine wo_vI (As := [.int (nI b9), .int (nI p9), .long vv]) (rest := []) (kX0_move l dC dI ca ad S b9 p9 vv (by first | assumption | omega) (by first | assumption | omega)) ⟨hx, hb, hml, hown, hts⟩ (cwV 3 hts (wa_gV wd_214 wd_215 wd_216 wd_4 wd_217) rfl rfl rfl (by decide +kernel) ⟨Nat.le_of_ble_eq_true rfl, Nat.le_of_ble_eq_true rfl⟩) hK hw hA 2 rfl rfl rfl rfl hl.1 rfl (Nat.le_of_ble_eq_true rfl) dX5_take_53 ⟨Nat.zero_le _, Nat.zero_le _⟩ (fun r_8 S_8 H locs hp_8 hw => ?_)
            have e9 := hp_8.1.symm
            subst e9
            have e9 := hp_8.2.symm
            subst e9
            refine lv_if_eq (tgt := 71) hx hb dX5_take_56 (by decide) (fun c_9 => ?_) (fun c_9 => ?_)
            · skip
              have c_9 : mvOk S b9 p9 vv = false := nb_0 c_9
              rw [if_neg (by rw [c_9]; decide)] at hw
              obtain ⟨kq, hk8, hq, -⟩ := hri.1 p9 hp9
              have ec_k : (S.1 34 p9).toNatClampNeg = kq := by rw [hq, nI_clamp (by omega)]
              have fk : True := trivial
              refine lv_aload_n hx hb dX5_take_71 rfl (lv_at hl 0 rfl) ?_
              refine wo_get hx hb hts inX5 hown hK hw 0 rfl rfl 0 (by decide) (hts _ wd_166) (fun _ h9 => h9) rfl dX5_take_72 ?_
              refine wo_get hx hb hts inX1 hown hK hw 1 rfl rfl 1 (by decide) (hts _ wd_38) (fun _ h9 => h9) rfl dX5_take_75 ?_
              refine lv_iload_n hx hb dX5_take_78 rfl (lv_at hl 2 rfl) ?_
              refine wo_zald hx hb hK hw 7 2 rfl rfl p9 rfl (by first | assumption | omega) (by decide) dX5_take_79 ?_
              refine lv_if_eq (tgt := 98) hx hb dX5_take_80 (by decide) (fun c_10 => ?_) (fun c_10 => ?_)
              · skip
                refine lv_aload_n hx hb dX5_take_98 rfl (lv_at hl 0 rfl) ?_
                refine lv_dup hx hb dX5_take_99 rfl ?_
                refine wo_get hx hb hts inX5 hown hK hw 0 rfl rfl 6 (by decide) (hts _ wd_172) (fun _ h9 => h9) rfl dX5_take_100 ?_
                refine lv_iconst (v := nI 1) hx hb dX5_take_103 (by decide) ?_
                refine lv_iadd hx hb dX5_take_104 ?_
                refine wo_put (ty := .int) (v := .int ((S.1 0 6) + (nI 1))) hx hb hts inX5 tyX5 tyX5_ok nmX5 hown hK hw 0 rfl rfl 6 (by decide) (hts _ wd_172) (fun _ h9 => h9) rfl (by decide +kernel) rfl rfl (Nat.le_of_ble_eq_true rfl) (sf_0_6 ca ad S ((S.1 0 6) + (nI 1))) dX5_take_105 (fun H locs hw => ?_)
                refine lv_iconst (v := nI 0) hx hb dX5_take_108 (by decide) ?_
                exact ct_iret (S := sI S 0 6 ((S.1 0 6) + (nI 1))) (v := nI 0) hx hb hr hlocks hK hw (⟨by simp only [tkF, tkG, tkR, dnS, rfS, c_2, ec_b9, c_4, ec_p9, c_5, c_6, c_7, c_9, c_10, ec_k, decide_true, decide_false, Bool.not_true, Bool.not_false, Bool.true_and, Bool.and_true, Bool.false_and, Bool.and_false, Bool.or_true, Bool.true_or, Bool.or_false, Bool.false_or, Bool.false_eq_true, Bool.true_eq_false, if_true, if_false, ↓reduceIte], by simp only [tkF, tkG, tkR, dnS, rfS, c_2, ec_b9, c_4, ec_p9, c_5, c_6, c_7, c_9, c_10, ec_k, decide_true, decide_false, Bool.not_true, Bool.not_false, Bool.true_and, Bool.and_true, Bool.false_and, Bool.and_false, Bool.or_true, Bool.true_or, Bool.or_false, Bool.false_or, Bool.false_eq_true, Bool.true_eq_false, if_true, if_false, ↓reduceIte]⟩) dX5_take_109
              · skip
                refine lv_aload_n hx hb dX5_take_83 rfl (lv_at hl 0 rfl) ?_
                refine wo_get hx hb hts inX5 hown hK hw 0 rfl rfl 3 (by decide) (hts _ wd_169) (fun _ h9 => h9) rfl dX5_take_84 ?_
                refine lv_iload_n hx hb dX5_take_87 rfl (lv_at hl 2 rfl) ?_
                refine lv_iload_n hx hb dX5_take_88 rfl (lv_at hl 1 rfl) ?_
                refine lv_lload_n hx hb dX5_take_89 rfl (lv_at hl 3 rfl) ?_
                refine wo_vI (As := [.int (nI p9), .int (nI b9), .long vv]) (rest := []) (kX2_append l dC dI ca ad S p9 b9 vv kq (by first | assumption | omega) (by first | assumption | omega) (by first | assumption | omega)) ⟨hx, hb, hml, hown, hts⟩ (cwV 3 hts (wa_gV wd_229 wd_230 wd_231 wd_6 wd_232) rfl rfl rfl (by decide +kernel) ⟨Nat.le_of_ble_eq_true rfl, Nat.le_of_ble_eq_true rfl⟩) hK hw hA 4 rfl rfl rfl rfl hl.1 rfl (Nat.le_of_ble_eq_true rfl) dX5_take_90 ⟨Nat.zero_le _, Nat.zero_le _⟩ (fun r_11 S_11 H locs hp_11 hw => ?_)
                have e9 := hp_11.1.symm
                subst e9
                have e9 := hp_11.2.symm
                subst e9
                refine lv_if_eq (tgt := 98) hx hb dX5_take_93 (by decide) (fun c_12 => ?_) (fun c_12 => ?_)
                · skip
                  have c_12 : decide (kq < 8) = false := nb_0 c_12
                  have c_12 := of_decide_eq_false c_12
                  rw [if_neg c_12] at hw
                  refine lv_aload_n hx hb dX5_take_98 rfl (lv_at hl 0 rfl) ?_
                  refine lv_dup hx hb dX5_take_99 rfl ?_
                  refine wo_get hx hb hts inX5 hown hK hw 0 rfl rfl 6 (by decide) (hts _ wd_172) (fun _ h9 => h9) rfl dX5_take_100 ?_
                  refine lv_iconst (v := nI 1) hx hb dX5_take_103 (by decide) ?_
                  refine lv_iadd hx hb dX5_take_104 ?_
                  refine wo_put (ty := .int) (v := .int ((S.1 0 6) + (nI 1))) hx hb hts inX5 tyX5 tyX5_ok nmX5 hown hK hw 0 rfl rfl 6 (by decide) (hts _ wd_172) (fun _ h9 => h9) rfl (by decide +kernel) rfl rfl (Nat.le_of_ble_eq_true rfl) (sf_0_6 ca ad S ((S.1 0 6) + (nI 1))) dX5_take_105 (fun H locs hw => ?_)
                  refine lv_iconst (v := nI 0) hx hb dX5_take_108 (by decide) ?_
                  exact ct_iret (S := sI S 0 6 ((S.1 0 6) + (nI 1))) (v := nI 0) hx hb hr hlocks hK hw (⟨by simp only [tkF, tkG, tkR, dnS, rfS, c_2, ec_b9, c_4, ec_p9, c_5, c_6, c_7, c_9, c_10, c_12, ec_k, decide_true, decide_false, Bool.not_true, Bool.not_false, Bool.true_and, Bool.and_true, Bool.false_and, Bool.and_false, Bool.or_true, Bool.true_or, Bool.or_false, Bool.false_or, Bool.false_eq_true, Bool.true_eq_false, if_true, if_false, ↓reduceIte], by simp only [tkF, tkG, tkR, dnS, rfS, c_2, ec_b9, c_4, ec_p9, c_5, c_6, c_7, c_9, c_10, c_12, ec_k, decide_true, decide_false, Bool.not_true, Bool.not_false, Bool.true_and, Bool.and_true, Bool.false_and, Bool.and_false, Bool.or_true, Bool.true_or, Bool.or_false, Bool.false_or, Bool.false_eq_true, Bool.true_eq_false, if_true, if_false, ↓reduceIte]⟩) dX5_take_109
                · skip
                  have c_12 : decide (kq < 8) = true := nb_1 c_12
                  have c_12 := of_decide_eq_true c_12
                  rw [if_pos c_12] at hw
                  refine lv_iconst (v := nI 2) hx hb dX5_take_96 (by decide) ?_
                  exact ct_iret (S := qapp S p9 kq b9 vv) (v := nI 2) hx hb hr hlocks hK hw (⟨by simp only [tkF, tkG, tkR, dnS, rfS, c_2, ec_b9, c_4, ec_p9, c_5, c_6, c_7, c_9, c_10, c_12, ec_k, decide_true, decide_false, Bool.not_true, Bool.not_false, Bool.true_and, Bool.and_true, Bool.false_and, Bool.and_false, Bool.or_true, Bool.true_or, Bool.or_false, Bool.false_or, Bool.false_eq_true, Bool.true_eq_false, if_true, if_false, ↓reduceIte], by simp only [tkF, tkG, tkR, dnS, rfS, c_2, ec_b9, c_4, ec_p9, c_5, c_6, c_7, c_9, c_10, c_12, ec_k, decide_true, decide_false, Bool.not_true, Bool.not_false, Bool.true_and, Bool.and_true, Bool.false_and, Bool.and_false, Bool.or_true, Bool.true_or, Bool.or_false, Bool.false_or, Bool.false_eq_true, Bool.true_eq_false, if_true, if_false, ↓reduceIte]⟩) dX5_take_97
            · skip
              have c_9 : mvOk S b9 p9 vv = true := nb_1 c_9
              rw [if_pos c_9] at hw
              refine lv_aload_n hx hb dX5_take_59 rfl (lv_at hl 0 rfl) ?_
              refine lv_dup hx hb dX5_take_60 rfl ?_
              refine wo_get hx hb hts inX5 hown hK hw 0 rfl rfl 5 (by decide) (hts _ wd_171) (fun _ h9 => h9) rfl dX5_take_61 ?_
              refine lv_iconst (v := nI 1) hx hb dX5_take_64 (by decide) ?_
              refine lv_iadd hx hb dX5_take_65 ?_
              refine wo_put (ty := .int) (v := .int (((mvS S b9 p9 vv).1 0 5) + (nI 1))) hx hb hts inX5 tyX5 tyX5_ok nmX5 hown hK hw 0 rfl rfl 5 (by decide) (hts _ wd_171) (fun _ h9 => h9) rfl (by decide +kernel) rfl rfl (Nat.le_of_ble_eq_true rfl) (sf_0_5 ca ad (mvS S b9 p9 vv) (((mvS S b9 p9 vv).1 0 5) + (nI 1))) dX5_take_66 (fun H locs hw => ?_)
              refine lv_iconst (v := nI 1) hx hb dX5_take_69 (by decide) ?_
              exact ct_iret (S := sI (mvS S b9 p9 vv) 0 5 (((mvS S b9 p9 vv).1 0 5) + (nI 1))) (v := nI 1) hx hb hr hlocks hK hw (⟨by simp only [tkF, tkG, tkR, dnS, rfS, c_2, ec_b9, c_4, ec_p9, c_5, c_6, c_7, c_9, decide_true, decide_false, Bool.not_true, Bool.not_false, Bool.true_and, Bool.and_true, Bool.false_and, Bool.and_false, Bool.or_true, Bool.true_or, Bool.or_false, Bool.false_or, Bool.false_eq_true, Bool.true_eq_false, if_true, if_false, ↓reduceIte], by simp only [tkF, tkG, tkR, dnS, rfS, c_2, ec_b9, c_4, ec_p9, c_5, c_6, c_7, c_9, decide_true, decide_false, Bool.not_true, Bool.not_false, Bool.true_and, Bool.and_true, Bool.false_and, Bool.and_false, Bool.or_true, Bool.true_or, Bool.or_false, Bool.false_or, Bool.false_eq_true, Bool.true_eq_false, if_true, if_false, ↓reduceIte]⟩) dX5_take_70
          · skip
            refine lv_iconst (v := (-1)) hx hb dX5_take_44 (by decide) ?_
            exact ct_iret (S := S) (v := (-1)) hx hb hr hlocks hK hw (⟨by simp only [tkF, tkG, tkR, dnS, rfS, c_2, ec_b9, c_4, ec_p9, c_5, c_6, c_7, decide_true, decide_false, Bool.not_true, Bool.not_false, Bool.true_and, Bool.and_true, Bool.false_and, Bool.and_false, Bool.or_true, Bool.true_or, Bool.or_false, Bool.false_or, Bool.false_eq_true, Bool.true_eq_false, if_true, if_false, ↓reduceIte], by simp only [tkF, tkG, tkR, dnS, rfS, c_2, ec_b9, c_4, ec_p9, c_5, c_6, c_7, decide_true, decide_false, Bool.not_true, Bool.not_false, Bool.true_and, Bool.and_true, Bool.false_and, Bool.and_false, Bool.or_true, Bool.true_or, Bool.or_false, Bool.false_or, Bool.false_eq_true, Bool.true_eq_false, if_true, if_false, ↓reduceIte]⟩) dX5_take_45

set_option maxHeartbeats 4000000 in
set_option maxRecDepth 100000 in
theorem kX5_lend (l : Launch) (dC : Nat → ClassId) (dI : Nat → Nat → Nat) (ca : Nat → ClassId) (ad : Nat → Nat) (S : sSt) (bb : Int32) (sd : Int32) (fr : Int32) (to : Int32) (vv : Int64) (nb : Nat) (nr : Nat) (hb6 : nb ≤ 6) (hr2 : nr ≤ 200) (hri : RI nb nr S) : ct_I l yX5_lend (Cond.code yX5_lend cX5_lend 7 (some .int) :: wa_T) ({ frames := 3, cells := 0, slots := 0, locals := 66 } : Room) (dC, dI) vwCl (tyl ca) (wc ca ad) S [.ref (ad 0), .int bb, .int sd, .int fr, .int to, .long vv] (fun r S2 => r = (ldF S nr bb sd fr to vv).1 ∧ S2 = (ldF S nr bb sd fr to vv).2) := by
  refine ct_ofI (by decide) (Nat.le_of_ble_eq_true rfl) ?_
  intro p e s m below meth c A ls hx hb hr hml hts hown hlocks hK hA hw hl
  have hl : lv_has ls 7 [(0, .ref (ad 0)), (1, .int bb), (2, .int sd), (3, .int fr), (4, .int to), (5, .long vv)] := hl
  refine lv_aload_n hx hb dX5_lend_0 rfl (lv_at hl 0 rfl) ?_
  refine lv_iload_n hx hb dX5_lend_1 rfl (lv_at hl 1 rfl) ?_
  refine lv_iload_n hx hb dX5_lend_2 rfl (lv_at hl 2 rfl) ?_
  refine lv_iload hx hb dX5_lend_3 (lv_at hl 4 rfl) ?_
  refine lv_lload hx hb dX5_lend_5 (lv_at hl 5 rfl) ?_
  refine wo_vI (As := [.int bb, .int sd, .int to, .long vv]) (rest := []) (kX5_canAskFor l dC dI ca ad S bb sd to vv) ⟨hx, hb, hml, hown, hts⟩ (cwV 4 hts (wa_gV wd_237 wd_239 ws_0 wd_1 wd_240) rfl rfl rfl (by decide +kernel) ⟨Nat.le_of_ble_eq_true rfl, Nat.le_of_ble_eq_true rfl⟩) hK hw hA 0 rfl rfl rfl rfl hl.1 rfl (Nat.le_of_ble_eq_true rfl) dX5_lend_7 ⟨Nat.zero_le _, Nat.zero_le _⟩ (fun r_1 S_1 H locs hp_1 hw => ?_)
  have e9 := hp_1.1.symm
  subst e9
  have e9 := hp_1.2.symm
  subst e9
  refine lv_if_eq (tgt := 30) hx hb dX5_lend_10 (by decide) (fun c_2 => ?_) (fun c_2 => ?_)
  · skip
    have c_2 : caf S bb sd to vv = false := nb_0 c_2
    refine lv_iconst (v := (-1)) hx hb dX5_lend_30 (by decide) ?_
    exact ct_iret (S := S) (v := (-1)) hx hb hr hlocks hK hw (⟨by simp only [bI, ldF, sdR, c_2, decide_true, decide_false, Bool.not_true, Bool.not_false, Bool.true_and, Bool.and_true, Bool.false_and, Bool.and_false, Bool.or_true, Bool.true_or, Bool.or_false, Bool.false_or, Bool.false_eq_true, Bool.true_eq_false, if_true, if_false, ↓reduceIte], by simp only [ldF, sdR, c_2, decide_true, decide_false, Bool.not_true, Bool.not_false, Bool.true_and, Bool.and_true, Bool.false_and, Bool.and_false, Bool.or_true, Bool.true_or, Bool.or_false, Bool.false_or, Bool.false_eq_true, Bool.true_eq_false, if_true, if_false, ↓reduceIte]⟩) dX5_lend_31
  · skip
    have c_2 : caf S bb sd to vv = true := nb_1 c_2
    obtain ⟨b9, s9, p9, hb9, hs9, hp9, rfl, rfl, rfl⟩ := caf_n hri.2.1 hb6 c_2
    have ec_b9 := nI_clamp (n := b9) (by omega)
    have ec_s9 := nI_clamp (n := s9) (by omega)
    have ec_p9 := nI_clamp (n := p9) (by omega)
    refine lv_aload_n hx hb dX5_lend_13 rfl (lv_at hl 0 rfl) ?_
    refine wo_get hx hb hts inX5 hown hK hw 0 rfl rfl 0 (by decide) (hts _ wd_166) (fun _ h9 => h9) rfl dX5_lend_14 ?_
    refine lv_iload_n hx hb dX5_lend_17 rfl (lv_at hl 3 rfl) ?_
    refine wo_vI (As := [.int fr]) (rest := []) (kX1_isWell l dC dI ca ad S fr) ⟨hx, hb, hml, hown, hts⟩ (cwV 1 hts (wa_gV wd_192 wd_193 wd_194 wd_2 wd_195) rfl rfl rfl (by decide +kernel) ⟨Nat.le_of_ble_eq_true rfl, Nat.le_of_ble_eq_true rfl⟩) hK hw hA 1 rfl rfl rfl rfl hl.1 rfl (Nat.le_of_ble_eq_true rfl) dX5_lend_18 ⟨Nat.zero_le _, Nat.zero_le _⟩ (fun r_3 S_3 H locs hp_3 hw => ?_)
    have e9 := hp_3.1.symm
    subst e9
    have e9 := hp_3.2.symm
    subst e9
    refine lv_if_eq (tgt := 30) hx hb dX5_lend_21 (by decide) (fun c_4 => ?_) (fun c_4 => ?_)
    · skip
      have c_4 : wl S fr = false := nb_0 c_4
      refine lv_iconst (v := (-1)) hx hb dX5_lend_30 (by decide) ?_
      exact ct_iret (S := S) (v := (-1)) hx hb hr hlocks hK hw (⟨by simp only [bI, ldF, sdR, c_2, ec_b9, ec_s9, ec_p9, c_4, decide_true, decide_false, Bool.not_true, Bool.not_false, Bool.true_and, Bool.and_true, Bool.false_and, Bool.and_false, Bool.or_true, Bool.true_or, Bool.or_false, Bool.false_or, Bool.false_eq_true, Bool.true_eq_false, if_true, if_false, ↓reduceIte], by simp only [ldF, sdR, c_2, ec_b9, ec_s9, ec_p9, c_4, decide_true, decide_false, Bool.not_true, Bool.not_false, Bool.true_and, Bool.and_true, Bool.false_and, Bool.and_false, Bool.or_true, Bool.true_or, Bool.or_false, Bool.false_or, Bool.false_eq_true, Bool.true_eq_false, if_true, if_false, ↓reduceIte]⟩) dX5_lend_31
    · skip
      have c_4 : wl S fr = true := nb_1 c_4
      obtain ⟨f9, hf9, rfl⟩ := wl_n c_4
      have ec_f9 := nI_clamp (n := f9) (by omega)
      refine lv_iload_n hx hb dX5_lend_24 rfl (lv_at hl 3 rfl) ?_
      refine lv_iload hx hb dX5_lend_25 (lv_at hl 4 rfl) ?_
      refine lv_icmp_ne (tgt := 32) hx hb dX5_lend_27 (by decide) (fun c_5 => ?_) (fun c_5 => ?_)
      · skip
        have c_5 : ¬ (f9 = p9) := fun h9 => c_5 ((nI_eq (a := f9) (b := p9) (by omega) (by omega)).mpr h9)
        have cI : ¬ nI f9 = nI p9 := fun h9 => c_5 ((nI_eq (by omega) (by omega)).mp h9)
        refine lv_aload_n hx hb dX5_lend_32 rfl (lv_at hl 0 rfl) ?_
        refine wo_get hx hb hts inX5 hown hK hw 0 rfl rfl 1 (by decide) (hts _ wd_167) (fun _ h9 => h9) rfl dX5_lend_33 ?_
        refine lv_iload_n hx hb dX5_lend_36 rfl (lv_at hl 1 rfl) ?_
        refine lv_iload_n hx hb dX5_lend_37 rfl (lv_at hl 2 rfl) ?_
        refine lv_iload_n hx hb dX5_lend_38 rfl (lv_at hl 3 rfl) ?_
        refine wo_vL (As := [.int (nI b9), .int (nI s9), .int (nI f9)]) (rest := []) (kX0_shareOf l dC dI ca ad S b9 s9 f9 (by first | assumption | omega) (by first | assumption | omega) (by first | assumption | omega)) ⟨hx, hb, hml, hown, hts⟩ (cwV 3 hts (wa_gV wd_244 wd_219 wd_220 wd_4 wd_221) rfl rfl rfl (by decide +kernel) ⟨Nat.le_of_ble_eq_true rfl, Nat.le_of_ble_eq_true rfl⟩) hK hw hA 2 rfl rfl rfl rfl hl.1 rfl (Nat.le_of_ble_eq_true rfl) dX5_lend_39 ⟨Nat.zero_le _, Nat.zero_le _⟩ (fun r_6 S_6 H locs hp_6 hw => ?_)
        have e9 := hp_6.1.symm
        subst e9
        have e9 := hp_6.2.symm
        subst e9
        refine lv_lload hx hb dX5_lend_42 (lv_at hl 5 rfl) ?_
        refine lc_ge (tgt := 50) hx hb dX5_lend_44 dX5_lend_45 (by decide) (fun c_7 => ?_) (fun c_7 => ?_)
        · skip
          refine lv_aload_n hx hb dX5_lend_50 rfl (lv_at hl 0 rfl) ?_
          refine lv_iload_n hx hb dX5_lend_51 rfl (lv_at hl 1 rfl) ?_
          refine lv_iload_n hx hb dX5_lend_52 rfl (lv_at hl 2 rfl) ?_
          refine lv_iload_n hx hb dX5_lend_53 rfl (lv_at hl 3 rfl) ?_
          refine lv_iload hx hb dX5_lend_54 (lv_at hl 4 rfl) ?_
          refine lv_lload hx hb dX5_lend_56 (lv_at hl 5 rfl) ?_
          refine wo_vI (As := [.int (nI b9), .int (nI s9), .int (nI f9), .int (nI p9), .long vv]) (rest := []) (kX5_send l dC dI ca ad S b9 s9 f9 p9 vv nr (by first | assumption | omega) (by first | assumption | omega) (by first | assumption | omega) hr2 hri.2.2) ⟨hx, hb, hml, hown, hts⟩ (cwV 5 hts (wa_gV wd_245 wd_247 ws_1 wd_1 wd_248) rfl rfl rfl (by decide +kernel) ⟨Nat.le_of_ble_eq_true rfl, Nat.le_of_ble_eq_true rfl⟩) hK hw hA 0 rfl rfl rfl rfl hl.1 rfl (Nat.le_of_ble_eq_true rfl) dX5_lend_58 ⟨Nat.zero_le _, Nat.zero_le _⟩ (fun r_8 S_8 H locs hp_8 hw => ?_)
          have e9 := hp_8.1.symm
          subst e9
          have e9 := hp_8.2.symm
          subst e9
          exact ct_iret (S := sendS S nr b9 s9 f9 p9 vv) (v := (if nr < 200 then nI (nr + 1) else nI 0)) hx hb hr hlocks hK hw (⟨by simp only [bI, ldF, sdR, c_2, ec_b9, ec_s9, ec_p9, c_4, ec_f9, cI, c_7, decide_true, decide_false, Bool.not_true, Bool.not_false, Bool.true_and, Bool.and_true, Bool.false_and, Bool.and_false, Bool.or_true, Bool.true_or, Bool.or_false, Bool.false_or, Bool.false_eq_true, Bool.true_eq_false, if_true, if_false, ↓reduceIte], by simp only [ldF, sdR, c_2, ec_b9, ec_s9, ec_p9, c_4, ec_f9, cI, c_7, decide_true, decide_false, Bool.not_true, Bool.not_false, Bool.true_and, Bool.and_true, Bool.false_and, Bool.and_false, Bool.or_true, Bool.true_or, Bool.or_false, Bool.false_or, Bool.false_eq_true, Bool.true_eq_false, if_true, if_false, ↓reduceIte]⟩) dX5_lend_61
        · skip
          refine lv_iconst (v := nI 0) hx hb dX5_lend_48 (by decide) ?_
          exact ct_iret (S := S) (v := nI 0) hx hb hr hlocks hK hw (⟨by simp only [bI, ldF, sdR, c_2, ec_b9, ec_s9, ec_p9, c_4, ec_f9, cI, c_7, decide_true, decide_false, Bool.not_true, Bool.not_false, Bool.true_and, Bool.and_true, Bool.false_and, Bool.and_false, Bool.or_true, Bool.true_or, Bool.or_false, Bool.false_or, Bool.false_eq_true, Bool.true_eq_false, if_true, if_false, ↓reduceIte], by simp only [ldF, sdR, c_2, ec_b9, ec_s9, ec_p9, c_4, ec_f9, cI, c_7, decide_true, decide_false, Bool.not_true, Bool.not_false, Bool.true_and, Bool.and_true, Bool.false_and, Bool.and_false, Bool.or_true, Bool.true_or, Bool.or_false, Bool.false_or, Bool.false_eq_true, Bool.true_eq_false, if_true, if_false, ↓reduceIte]⟩) dX5_lend_49
      · skip
        have c_5 : f9 = p9 := (nI_eq (a := f9) (b := p9) (by omega) (by omega)).mp c_5
        have cI : nI f9 = nI p9 := congrArg nI c_5
        refine lv_iconst (v := (-1)) hx hb dX5_lend_30 (by decide) ?_
        exact ct_iret (S := S) (v := (-1)) hx hb hr hlocks hK hw (⟨by simp only [bI, ldF, sdR, c_2, ec_b9, ec_s9, ec_p9, c_4, ec_f9, cI, decide_true, decide_false, Bool.not_true, Bool.not_false, Bool.true_and, Bool.and_true, Bool.false_and, Bool.and_false, Bool.or_true, Bool.true_or, Bool.or_false, Bool.false_or, Bool.false_eq_true, Bool.true_eq_false, if_true, if_false, ↓reduceIte], by simp only [ldF, sdR, c_2, ec_b9, ec_s9, ec_p9, c_4, ec_f9, cI, decide_true, decide_false, Bool.not_true, Bool.not_false, Bool.true_and, Bool.and_true, Bool.false_and, Bool.and_false, Bool.or_true, Bool.true_or, Bool.or_false, Bool.false_or, Bool.false_eq_true, Bool.true_eq_false, if_true, if_false, ↓reduceIte]⟩) dX5_lend_31

set_option maxHeartbeats 4000000 in
set_option maxRecDepth 100000 in
theorem kX5_ask (l : Launch) (dC : Nat → ClassId) (dI : Nat → Nat → Nat) (ca : Nat → ClassId) (ad : Nat → Nat) (S : sSt) (bb : Int32) (sd : Int32) (pp : Int32) (vv : Int64) (nb : Nat) (nr : Nat) (hb6 : nb ≤ 6) (hr2 : nr ≤ 200) (hri : RI nb nr S) : ct_I l yX5_ask (Cond.code yX5_ask cX5_ask 7 (some .int) :: wa_T) ({ frames := 3, cells := 0, slots := 0, locals := 68 } : Room) (dC, dI) vwCl (tyl ca) (wc ca ad) S [.ref (ad 0), .int bb, .int sd, .int pp, .long vv] (fun r S2 => r = (akF S nr bb sd pp vv).1 ∧ S2 = (akF S nr bb sd pp vv).2) := by
  refine ct_ofI (by decide) (Nat.le_of_ble_eq_true rfl) ?_
  intro p e s m below meth c A ls hx hb hr hml hts hown hlocks hK hA hw hl
  have hl : lv_has ls 7 [(0, .ref (ad 0)), (1, .int bb), (2, .int sd), (3, .int pp), (4, .long vv)] := hl
  refine lv_aload_n hx hb dX5_ask_0 rfl (lv_at hl 0 rfl) ?_
  refine lv_iload_n hx hb dX5_ask_1 rfl (lv_at hl 1 rfl) ?_
  refine lv_iload_n hx hb dX5_ask_2 rfl (lv_at hl 2 rfl) ?_
  refine lv_iload_n hx hb dX5_ask_3 rfl (lv_at hl 3 rfl) ?_
  refine lv_lload hx hb dX5_ask_4 (lv_at hl 4 rfl) ?_
  refine wo_vI (As := [.int bb, .int sd, .int pp, .long vv]) (rest := []) (kX5_canAskFor l dC dI ca ad S bb sd pp vv) ⟨hx, hb, hml, hown, hts⟩ (cwV 4 hts (wa_gV wd_237 wd_239 ws_0 wd_1 wd_240) rfl rfl rfl (by decide +kernel) ⟨Nat.le_of_ble_eq_true rfl, Nat.le_of_ble_eq_true rfl⟩) hK hw hA 0 rfl rfl rfl rfl hl.1 rfl (Nat.le_of_ble_eq_true rfl) dX5_ask_6 ⟨Nat.zero_le _, Nat.zero_le _⟩ (fun r_1 S_1 H locs hp_1 hw => ?_)
  have e9 := hp_1.1.symm
  subst e9
  have e9 := hp_1.2.symm
  subst e9
  refine lv_if_ne (tgt := 14) hx hb dX5_ask_9 (by decide) (fun c_2 => ?_) (fun c_2 => ?_)
  · skip
    have c_2 : caf S bb sd pp vv = true := nb_1 c_2
    obtain ⟨b9, s9, p9, hb9, hs9, hp9, rfl, rfl, rfl⟩ := caf_n hri.2.1 hb6 c_2
    have ec_b9 := nI_clamp (n := b9) (by omega)
    have ec_s9 := nI_clamp (n := s9) (by omega)
    have ec_p9 := nI_clamp (n := p9) (by omega)
    refine lv_aload_n hx hb dX5_ask_14 rfl (lv_at hl 0 rfl) ?_
    refine lv_iload_n hx hb dX5_ask_15 rfl (lv_at hl 1 rfl) ?_
    refine lv_iload_n hx hb dX5_ask_16 rfl (lv_at hl 2 rfl) ?_
    refine lv_iload_n hx hb dX5_ask_17 rfl (lv_at hl 3 rfl) ?_
    refine wo_vI (As := [.int (nI b9), .int (nI s9), .int (nI p9)]) (rest := []) (kX5_richestOther l dC dI ca ad S b9 s9 p9 (by first | assumption | omega) (by first | assumption | omega) (by first | assumption | omega)) ⟨hx, hb, hml, hown, hts⟩ (cwV 3 hts (wa_gV wd_258 wd_260 ws_2 wd_1 wd_261) rfl rfl rfl (by decide +kernel) ⟨Nat.le_of_ble_eq_true rfl, Nat.le_of_ble_eq_true rfl⟩) hK hw hA 0 rfl rfl rfl rfl hl.1 rfl (Nat.le_of_ble_eq_true rfl) dX5_ask_18 ⟨Nat.zero_le _, Nat.zero_le _⟩ (fun r_3 S_3 H locs hp_3 hw => ?_)
    have e9 := hp_3.1.symm
    subst e9
    have e9 := hp_3.2.symm
    subst e9
    refine lv_istore (lv' := [(6, .int ((rich S (b9 * 2 + s9) p9 6).1)), (0, .ref (ad 0)), (1, .int (nI b9)), (2, .int (nI s9)), (3, .int (nI p9)), (4, .long vv)]) hx hb dX5_ask_21 hl (by decide) rfl (fun ls hl => ?_)
    refine lv_iload hx hb dX5_ask_23 (lv_at hl 0 rfl) ?_
    refine lv_iconst (v := (-1)) hx hb dX5_ask_25 (by decide) ?_
    refine lv_icmp_ne (tgt := 31) hx hb dX5_ask_26 (by decide) (fun c_4 => ?_) (fun c_4 => ?_)
    · skip
      obtain ⟨q9, hq9, eq9⟩ := (rich_n S (b9 * 2 + s9) p9 6).resolve_left c_4
      have ec_q9 := nI_clamp (n := q9) (by omega)
      rw [eq9] at hl
      have nq9 : ¬ nI q9 = (-1) := eq9 ▸ c_4
      refine lv_aload_n hx hb dX5_ask_31 rfl (lv_at hl 1 rfl) ?_
      refine lv_iload_n hx hb dX5_ask_32 rfl (lv_at hl 2 rfl) ?_
      refine lv_iload_n hx hb dX5_ask_33 rfl (lv_at hl 3 rfl) ?_
      refine lv_iload hx hb dX5_ask_34 (lv_at hl 0 rfl) ?_
      refine lv_iload_n hx hb dX5_ask_36 rfl (lv_at hl 4 rfl) ?_
      refine lv_lload hx hb dX5_ask_37 (lv_at hl 5 rfl) ?_
      refine lv_aload_n hx hb dX5_ask_39 rfl (lv_at hl 1 rfl) ?_
      refine wo_get hx hb hts inX5 hown hK hw 0 rfl rfl 1 (by decide) (hts _ wd_167) (fun _ h9 => h9) rfl dX5_ask_40 ?_
      refine lv_iload_n hx hb dX5_ask_43 rfl (lv_at hl 2 rfl) ?_
      refine lv_iload_n hx hb dX5_ask_44 rfl (lv_at hl 3 rfl) ?_
      refine lv_iload hx hb dX5_ask_45 (lv_at hl 0 rfl) ?_
      refine wo_vL (As := [.int (nI b9), .int (nI s9), .int (nI q9)]) (rest := [.long vv, .int (nI p9), .int (nI q9), .int (nI s9), .int (nI b9), .ref (ad 0)]) (kX0_shareOf l dC dI ca ad S b9 s9 q9 (by first | assumption | omega) (by first | assumption | omega) (by first | assumption | omega)) ⟨hx, hb, hml, hown, hts⟩ (cwV 3 hts (wa_gV wd_244 wd_219 wd_220 wd_4 wd_221) rfl rfl rfl (by decide +kernel) ⟨Nat.le_of_ble_eq_true rfl, Nat.le_of_ble_eq_true rfl⟩) hK hw hA 2 rfl rfl rfl rfl hl.1 rfl (Nat.le_of_ble_eq_true rfl) dX5_ask_47 ⟨Nat.zero_le _, Nat.zero_le _⟩ (fun r_5 S_5 H locs hp_5 hw => ?_)
      have e9 := hp_5.1.symm
      subst e9
      have e9 := hp_5.2.symm
      subst e9
      refine va_mmin_long hx hb (hml.trans hl.1.symm) hown (hts _ wd_262) (hts _ wd_263) (hts _ wd_15) (hts _ wd_264) (Nat.le_of_ble_eq_true rfl) (Nat.le_of_ble_eq_true rfl) (Nat.zero_le _) (Nat.zero_le _) dX5_ask_50 ?_
      refine wo_vI (As := [.int (nI b9), .int (nI s9), .int (nI q9), .int (nI p9), .long (if (S.2 (14 + (b9 * 2 + s9)) q9) < vv then (S.2 (14 + (b9 * 2 + s9)) q9) else vv)]) (rest := []) (kX5_send l dC dI ca ad S b9 s9 q9 p9 (if (S.2 (14 + (b9 * 2 + s9)) q9) < vv then (S.2 (14 + (b9 * 2 + s9)) q9) else vv) nr (by first | assumption | omega) (by first | assumption | omega) (by first | assumption | omega) hr2 hri.2.2) ⟨hx, hb, hml, hown, hts⟩ (cwV 5 hts (wa_gV wd_245 wd_247 ws_1 wd_1 wd_248) rfl rfl rfl (by decide +kernel) ⟨Nat.le_of_ble_eq_true rfl, Nat.le_of_ble_eq_true rfl⟩) hK hw hA 0 rfl rfl rfl rfl hl.1 rfl (Nat.le_of_ble_eq_true rfl) dX5_ask_53 ⟨Nat.zero_le _, Nat.zero_le _⟩ (fun r_6 S_6 H locs hp_6 hw => ?_)
      have e9 := hp_6.1.symm
      subst e9
      have e9 := hp_6.2.symm
      subst e9
      exact ct_iret (S := sendS S nr b9 s9 q9 p9 (if (S.2 (14 + (b9 * 2 + s9)) q9) < vv then (S.2 (14 + (b9 * 2 + s9)) q9) else vv)) (v := (if nr < 200 then nI (nr + 1) else nI 0)) hx hb hr hlocks hK hw (⟨by simp only [akF, akR, sdR, c_2, ec_b9, ec_s9, ec_p9, ec_q9, eq9, nq9, decide_true, decide_false, Bool.not_true, Bool.not_false, Bool.true_and, Bool.and_true, Bool.false_and, Bool.and_false, Bool.or_true, Bool.true_or, Bool.or_false, Bool.false_or, Bool.false_eq_true, Bool.true_eq_false, if_true, if_false, ↓reduceIte], by simp only [akF, akR, sdR, c_2, ec_b9, ec_s9, ec_p9, ec_q9, eq9, nq9, decide_true, decide_false, Bool.not_true, Bool.not_false, Bool.true_and, Bool.and_true, Bool.false_and, Bool.and_false, Bool.or_true, Bool.true_or, Bool.or_false, Bool.false_or, Bool.false_eq_true, Bool.true_eq_false, if_true, if_false, ↓reduceIte]⟩) dX5_ask_56
    · skip
      refine lv_iconst (v := nI 0) hx hb dX5_ask_29 (by decide) ?_
      exact ct_iret (S := S) (v := nI 0) hx hb hr hlocks hK hw (⟨by simp only [akF, akR, sdR, c_2, ec_b9, ec_s9, ec_p9, c_4, decide_true, decide_false, Bool.not_true, Bool.not_false, Bool.true_and, Bool.and_true, Bool.false_and, Bool.and_false, Bool.or_true, Bool.true_or, Bool.or_false, Bool.false_or, Bool.false_eq_true, Bool.true_eq_false, if_true, if_false, ↓reduceIte], by simp only [akF, akR, sdR, c_2, ec_b9, ec_s9, ec_p9, c_4, decide_true, decide_false, Bool.not_true, Bool.not_false, Bool.true_and, Bool.and_true, Bool.false_and, Bool.and_false, Bool.or_true, Bool.true_or, Bool.or_false, Bool.false_or, Bool.false_eq_true, Bool.true_eq_false, if_true, if_false, ↓reduceIte]⟩) dX5_ask_30
  · skip
    have c_2 : caf S bb sd pp vv = false := nb_0 c_2
    refine lv_iconst (v := (-1)) hx hb dX5_ask_12 (by decide) ?_
    exact ct_iret (S := S) (v := (-1)) hx hb hr hlocks hK hw (⟨by simp only [akF, akR, sdR, c_2, decide_true, decide_false, Bool.not_true, Bool.not_false, Bool.true_and, Bool.and_true, Bool.false_and, Bool.and_false, Bool.or_true, Bool.true_or, Bool.or_false, Bool.false_or, Bool.false_eq_true, Bool.true_eq_false, if_true, if_false, ↓reduceIte], by simp only [akF, akR, sdR, c_2, decide_true, decide_false, Bool.not_true, Bool.not_false, Bool.true_and, Bool.and_true, Bool.false_and, Bool.and_false, Bool.or_true, Bool.true_or, Bool.or_false, Bool.false_or, Bool.false_eq_true, Bool.true_eq_false, if_true, if_false, ↓reduceIte]⟩) dX5_ask_13
end
section
theorem dX5_deliver_0 : decode cX5_deliver 0 = .ok (.aload_n 0, 1) := by decide +kernel
theorem dX5_deliver_1 : decode cX5_deliver 1 = .ok (.getfield 26, 3) := by decide +kernel
theorem dX5_deliver_4 : decode cX5_deliver 4 = .ok (.iload_n 1, 1) := by decide +kernel
theorem dX5_deliver_5 : decode cX5_deliver 5 = .ok (.invokevirtual 147, 3) := by decide +kernel
theorem dX5_deliver_8 : decode cX5_deliver 8 = .ok (.ifCond .eq 16, 3) := by decide +kernel
theorem dX5_deliver_11 : decode cX5_deliver 11 = .ok (.aload_n 0, 1) := by decide +kernel
theorem dX5_deliver_12 : decode cX5_deliver 12 = .ok (.getfield 26, 3) := by decide +kernel
theorem dX5_deliver_15 : decode cX5_deliver 15 = .ok (.getfield 148, 3) := by decide +kernel
theorem dX5_deliver_18 : decode cX5_deliver 18 = .ok (.iload_n 1, 1) := by decide +kernel
theorem dX5_deliver_19 : decode cX5_deliver 19 = .ok (.iaload, 1) := by decide +kernel
theorem dX5_deliver_20 : decode cX5_deliver 20 = .ok (.iconst 2, 1) := by decide +kernel
theorem dX5_deliver_21 : decode cX5_deliver 21 = .ok (.if_icmp .ne 5, 3) := by decide +kernel
theorem dX5_deliver_24 : decode cX5_deliver 24 = .ok (.iconst (-1), 1) := by decide +kernel
theorem dX5_deliver_25 : decode cX5_deliver 25 = .ok (.ireturn, 1) := by decide +kernel
theorem dX5_deliver_26 : decode cX5_deliver 26 = .ok (.aload_n 0, 1) := by decide +kernel
theorem dX5_deliver_27 : decode cX5_deliver 27 = .ok (.getfield 26, 3) := by decide +kernel
theorem dX5_deliver_30 : decode cX5_deliver 30 = .ok (.getfield 152, 3) := by decide +kernel
theorem dX5_deliver_33 : decode cX5_deliver 33 = .ok (.iload_n 1, 1) := by decide +kernel
theorem dX5_deliver_34 : decode cX5_deliver 34 = .ok (.dup2, 1) := by decide +kernel
theorem dX5_deliver_35 : decode cX5_deliver 35 = .ok (.iaload, 1) := by decide +kernel
theorem dX5_deliver_36 : decode cX5_deliver 36 = .ok (.iconst 1, 1) := by decide +kernel
theorem dX5_deliver_37 : decode cX5_deliver 37 = .ok (.iadd, 1) := by decide +kernel
theorem dX5_deliver_38 : decode cX5_deliver 38 = .ok (.iastore, 1) := by decide +kernel
theorem dX5_deliver_39 : decode cX5_deliver 39 = .ok (.aload_n 0, 1) := by decide +kernel
theorem dX5_deliver_40 : decode cX5_deliver 40 = .ok (.getfield 26, 3) := by decide +kernel
theorem dX5_deliver_43 : decode cX5_deliver 43 = .ok (.getfield 148, 3) := by decide +kernel
theorem dX5_deliver_46 : decode cX5_deliver 46 = .ok (.iload_n 1, 1) := by decide +kernel
theorem dX5_deliver_47 : decode cX5_deliver 47 = .ok (.iaload, 1) := by decide +kernel
theorem dX5_deliver_48 : decode cX5_deliver 48 = .ok (.iconst 1, 1) := by decide +kernel
theorem dX5_deliver_49 : decode cX5_deliver 49 = .ok (.if_icmp .ne 5, 3) := by decide +kernel
theorem dX5_deliver_52 : decode cX5_deliver 52 = .ok (.iconst 0, 1) := by decide +kernel
theorem dX5_deliver_53 : decode cX5_deliver 53 = .ok (.ireturn, 1) := by decide +kernel
theorem dX5_deliver_54 : decode cX5_deliver 54 = .ok (.aload_n 0, 1) := by decide +kernel
theorem dX5_deliver_55 : decode cX5_deliver 55 = .ok (.getfield 26, 3) := by decide +kernel
theorem dX5_deliver_58 : decode cX5_deliver 58 = .ok (.getfield 148, 3) := by decide +kernel
theorem dX5_deliver_61 : decode cX5_deliver 61 = .ok (.iload_n 1, 1) := by decide +kernel
theorem dX5_deliver_62 : decode cX5_deliver 62 = .ok (.iconst 1, 1) := by decide +kernel
theorem dX5_deliver_63 : decode cX5_deliver 63 = .ok (.iastore, 1) := by decide +kernel
theorem dX5_deliver_64 : decode cX5_deliver 64 = .ok (.aload_n 0, 1) := by decide +kernel
theorem dX5_deliver_65 : decode cX5_deliver 65 = .ok (.aload_n 0, 1) := by decide +kernel
theorem dX5_deliver_66 : decode cX5_deliver 66 = .ok (.getfield 26, 3) := by decide +kernel
theorem dX5_deliver_69 : decode cX5_deliver 69 = .ok (.getfield 155, 3) := by decide +kernel
theorem dX5_deliver_72 : decode cX5_deliver 72 = .ok (.iload_n 1, 1) := by decide +kernel
theorem dX5_deliver_73 : decode cX5_deliver 73 = .ok (.iaload, 1) := by decide +kernel
theorem dX5_deliver_74 : decode cX5_deliver 74 = .ok (.aload_n 0, 1) := by decide +kernel
theorem dX5_deliver_75 : decode cX5_deliver 75 = .ok (.getfield 26, 3) := by decide +kernel
theorem dX5_deliver_78 : decode cX5_deliver 78 = .ok (.getfield 158, 3) := by decide +kernel
theorem dX5_deliver_81 : decode cX5_deliver 81 = .ok (.iload_n 1, 1) := by decide +kernel
theorem dX5_deliver_82 : decode cX5_deliver 82 = .ok (.iaload, 1) := by decide +kernel
theorem dX5_deliver_83 : decode cX5_deliver 83 = .ok (.aload_n 0, 1) := by decide +kernel
theorem dX5_deliver_84 : decode cX5_deliver 84 = .ok (.getfield 26, 3) := by decide +kernel
theorem dX5_deliver_87 : decode cX5_deliver 87 = .ok (.getfield 161, 3) := by decide +kernel
theorem dX5_deliver_90 : decode cX5_deliver 90 = .ok (.iload_n 1, 1) := by decide +kernel
theorem dX5_deliver_91 : decode cX5_deliver 91 = .ok (.iaload, 1) := by decide +kernel
theorem dX5_deliver_92 : decode cX5_deliver 92 = .ok (.aload_n 0, 1) := by decide +kernel
theorem dX5_deliver_93 : decode cX5_deliver 93 = .ok (.getfield 26, 3) := by decide +kernel
theorem dX5_deliver_96 : decode cX5_deliver 96 = .ok (.iload_n 1, 1) := by decide +kernel
theorem dX5_deliver_97 : decode cX5_deliver 97 = .ok (.invokevirtual 164, 3) := by decide +kernel
theorem dX5_deliver_100 : decode cX5_deliver 100 = .ok (.invokevirtual 168, 3) := by decide +kernel
theorem dX5_deliver_103 : decode cX5_deliver 103 = .ok (.iconst 1, 1) := by decide +kernel
theorem dX5_deliver_104 : decode cX5_deliver 104 = .ok (.ireturn, 1) := by decide +kernel

theorem dX5_lose_0 : decode cX5_lose 0 = .ok (.aload_n 0, 1) := by decide +kernel
theorem dX5_lose_1 : decode cX5_lose 1 = .ok (.getfield 26, 3) := by decide +kernel
theorem dX5_lose_4 : decode cX5_lose 4 = .ok (.iload_n 1, 1) := by decide +kernel
theorem dX5_lose_5 : decode cX5_lose 5 = .ok (.invokevirtual 147, 3) := by decide +kernel
theorem dX5_lose_8 : decode cX5_lose 8 = .ok (.ifCond .eq 15, 3) := by decide +kernel
theorem dX5_lose_11 : decode cX5_lose 11 = .ok (.aload_n 0, 1) := by decide +kernel
theorem dX5_lose_12 : decode cX5_lose 12 = .ok (.getfield 26, 3) := by decide +kernel
theorem dX5_lose_15 : decode cX5_lose 15 = .ok (.getfield 148, 3) := by decide +kernel
theorem dX5_lose_18 : decode cX5_lose 18 = .ok (.iload_n 1, 1) := by decide +kernel
theorem dX5_lose_19 : decode cX5_lose 19 = .ok (.iaload, 1) := by decide +kernel
theorem dX5_lose_20 : decode cX5_lose 20 = .ok (.ifCond .eq 5, 3) := by decide +kernel
theorem dX5_lose_23 : decode cX5_lose 23 = .ok (.iconst 0, 1) := by decide +kernel
theorem dX5_lose_24 : decode cX5_lose 24 = .ok (.ireturn, 1) := by decide +kernel
theorem dX5_lose_25 : decode cX5_lose 25 = .ok (.aload_n 0, 1) := by decide +kernel
theorem dX5_lose_26 : decode cX5_lose 26 = .ok (.getfield 26, 3) := by decide +kernel
theorem dX5_lose_29 : decode cX5_lose 29 = .ok (.getfield 148, 3) := by decide +kernel
theorem dX5_lose_32 : decode cX5_lose 32 = .ok (.iload_n 1, 1) := by decide +kernel
theorem dX5_lose_33 : decode cX5_lose 33 = .ok (.iconst 2, 1) := by decide +kernel
theorem dX5_lose_34 : decode cX5_lose 34 = .ok (.iastore, 1) := by decide +kernel
theorem dX5_lose_35 : decode cX5_lose 35 = .ok (.iconst 1, 1) := by decide +kernel
theorem dX5_lose_36 : decode cX5_lose 36 = .ok (.ireturn, 1) := by decide +kernel

theorem dX5_end_0 : decode cX5_end 0 = .ok (.aload_n 0, 1) := by decide +kernel
theorem dX5_end_1 : decode cX5_end 1 = .ok (.getfield 10, 3) := by decide +kernel
theorem dX5_end_4 : decode cX5_end 4 = .ok (.iload_n 1, 1) := by decide +kernel
theorem dX5_end_5 : decode cX5_end 5 = .ok (.invokevirtual 44, 3) := by decide +kernel
theorem dX5_end_8 : decode cX5_end 8 = .ok (.ifCond .ne 5, 3) := by decide +kernel
theorem dX5_end_11 : decode cX5_end 11 = .ok (.iconst 0, 1) := by decide +kernel
theorem dX5_end_12 : decode cX5_end 12 = .ok (.ireturn, 1) := by decide +kernel
theorem dX5_end_13 : decode cX5_end 13 = .ok (.aload_n 0, 1) := by decide +kernel
theorem dX5_end_14 : decode cX5_end 14 = .ok (.getfield 10, 3) := by decide +kernel
theorem dX5_end_17 : decode cX5_end 17 = .ok (.getfield 172, 3) := by decide +kernel
theorem dX5_end_20 : decode cX5_end 20 = .ok (.iload_n 1, 1) := by decide +kernel
theorem dX5_end_21 : decode cX5_end 21 = .ok (.iconst 1, 1) := by decide +kernel
theorem dX5_end_22 : decode cX5_end 22 = .ok (.iastore, 1) := by decide +kernel
theorem dX5_end_23 : decode cX5_end 23 = .ok (.aload_n 0, 1) := by decide +kernel
theorem dX5_end_24 : decode cX5_end 24 = .ok (.getfield 33, 3) := by decide +kernel
theorem dX5_end_27 : decode cX5_end 27 = .ok (.iload_n 1, 1) := by decide +kernel
theorem dX5_end_28 : decode cX5_end 28 = .ok (.invokevirtual 173, 3) := by decide +kernel
theorem dX5_end_31 : decode cX5_end 31 = .ok (.iconst 0, 1) := by decide +kernel
theorem dX5_end_32 : decode cX5_end 32 = .ok (.istore_n 2, 1) := by decide +kernel
theorem dX5_end_33 : decode cX5_end 33 = .ok (.iload_n 2, 1) := by decide +kernel
theorem dX5_end_34 : decode cX5_end 34 = .ok (.bipush 6, 2) := by decide +kernel
theorem dX5_end_36 : decode cX5_end 36 = .ok (.if_icmp .ge 25, 3) := by decide +kernel
theorem dX5_end_39 : decode cX5_end 39 = .ok (.aload_n 0, 1) := by decide +kernel
theorem dX5_end_40 : decode cX5_end 40 = .ok (.getfield 10, 3) := by decide +kernel
theorem dX5_end_43 : decode cX5_end 43 = .ok (.iload_n 2, 1) := by decide +kernel
theorem dX5_end_44 : decode cX5_end 44 = .ok (.invokevirtual 177, 3) := by decide +kernel
theorem dX5_end_47 : decode cX5_end 47 = .ok (.ifCond .eq 8, 3) := by decide +kernel
theorem dX5_end_50 : decode cX5_end 50 = .ok (.aload_n 0, 1) := by decide +kernel
theorem dX5_end_51 : decode cX5_end 51 = .ok (.iload_n 2, 1) := by decide +kernel
theorem dX5_end_52 : decode cX5_end 52 = .ok (.invokevirtual 180, 3) := by decide +kernel
theorem dX5_end_55 : decode cX5_end 55 = .ok (.iinc 2 1, 3) := by decide +kernel
theorem dX5_end_58 : decode cX5_end 58 = .ok (.goto (-25), 3) := by decide +kernel
theorem dX5_end_61 : decode cX5_end 61 = .ok (.iconst 1, 1) := by decide +kernel
theorem dX5_end_62 : decode cX5_end 62 = .ok (.ireturn, 1) := by decide +kernel

theorem dX5_vouch_0 : decode cX5_vouch 0 = .ok (.aload_n 0, 1) := by decide +kernel
theorem dX5_vouch_1 : decode cX5_vouch 1 = .ok (.getfield 10, 3) := by decide +kernel
theorem dX5_vouch_4 : decode cX5_vouch 4 = .ok (.iload_n 1, 1) := by decide +kernel
theorem dX5_vouch_5 : decode cX5_vouch 5 = .ok (.invokevirtual 44, 3) := by decide +kernel
theorem dX5_vouch_8 : decode cX5_vouch 8 = .ok (.ifCond .eq 22, 3) := by decide +kernel
theorem dX5_vouch_11 : decode cX5_vouch 11 = .ok (.iload_n 2, 1) := by decide +kernel
theorem dX5_vouch_12 : decode cX5_vouch 12 = .ok (.invokestatic 183, 3) := by decide +kernel
theorem dX5_vouch_15 : decode cX5_vouch 15 = .ok (.ifCond .eq 15, 3) := by decide +kernel
theorem dX5_vouch_18 : decode cX5_vouch 18 = .ok (.aload_n 0, 1) := by decide +kernel
theorem dX5_vouch_19 : decode cX5_vouch 19 = .ok (.getfield 10, 3) := by decide +kernel
theorem dX5_vouch_22 : decode cX5_vouch 22 = .ok (.getfield 172, 3) := by decide +kernel
theorem dX5_vouch_25 : decode cX5_vouch 25 = .ok (.iload_n 2, 1) := by decide +kernel
theorem dX5_vouch_26 : decode cX5_vouch 26 = .ok (.iaload, 1) := by decide +kernel
theorem dX5_vouch_27 : decode cX5_vouch 27 = .ok (.ifCond .ne 5, 3) := by decide +kernel
theorem dX5_vouch_30 : decode cX5_vouch 30 = .ok (.iconst (-1), 1) := by decide +kernel
theorem dX5_vouch_31 : decode cX5_vouch 31 = .ok (.ireturn, 1) := by decide +kernel
theorem dX5_vouch_32 : decode cX5_vouch 32 = .ok (.aload_n 0, 1) := by decide +kernel
theorem dX5_vouch_33 : decode cX5_vouch 33 = .ok (.getfield 10, 3) := by decide +kernel
theorem dX5_vouch_36 : decode cX5_vouch 36 = .ok (.getfield 172, 3) := by decide +kernel
theorem dX5_vouch_39 : decode cX5_vouch 39 = .ok (.iload_n 2, 1) := by decide +kernel
theorem dX5_vouch_40 : decode cX5_vouch 40 = .ok (.iaload, 1) := by decide +kernel
theorem dX5_vouch_41 : decode cX5_vouch 41 = .ok (.iconst 2, 1) := by decide +kernel
theorem dX5_vouch_42 : decode cX5_vouch 42 = .ok (.if_icmp .eq 15, 3) := by decide +kernel
theorem dX5_vouch_45 : decode cX5_vouch 45 = .ok (.aload_n 0, 1) := by decide +kernel
theorem dX5_vouch_46 : decode cX5_vouch 46 = .ok (.getfield 10, 3) := by decide +kernel
theorem dX5_vouch_49 : decode cX5_vouch 49 = .ok (.iload_n 1, 1) := by decide +kernel
theorem dX5_vouch_50 : decode cX5_vouch 50 = .ok (.iload_n 2, 1) := by decide +kernel
theorem dX5_vouch_51 : decode cX5_vouch 51 = .ok (.invokevirtual 184, 3) := by decide +kernel
theorem dX5_vouch_54 : decode cX5_vouch 54 = .ok (.ifCond .ne 5, 3) := by decide +kernel
theorem dX5_vouch_57 : decode cX5_vouch 57 = .ok (.iconst 0, 1) := by decide +kernel
theorem dX5_vouch_58 : decode cX5_vouch 58 = .ok (.ireturn, 1) := by decide +kernel
theorem dX5_vouch_59 : decode cX5_vouch 59 = .ok (.aload_n 0, 1) := by decide +kernel
theorem dX5_vouch_60 : decode cX5_vouch 60 = .ok (.getfield 10, 3) := by decide +kernel
theorem dX5_vouch_63 : decode cX5_vouch 63 = .ok (.iload_n 2, 1) := by decide +kernel
theorem dX5_vouch_64 : decode cX5_vouch 64 = .ok (.invokevirtual 177, 3) := by decide +kernel
theorem dX5_vouch_67 : decode cX5_vouch 67 = .ok (.ifCond .ne 5, 3) := by decide +kernel
theorem dX5_vouch_70 : decode cX5_vouch 70 = .ok (.iconst 1, 1) := by decide +kernel
theorem dX5_vouch_71 : decode cX5_vouch 71 = .ok (.ireturn, 1) := by decide +kernel
theorem dX5_vouch_72 : decode cX5_vouch 72 = .ok (.aload_n 0, 1) := by decide +kernel
theorem dX5_vouch_73 : decode cX5_vouch 73 = .ok (.iload_n 2, 1) := by decide +kernel
theorem dX5_vouch_74 : decode cX5_vouch 74 = .ok (.invokevirtual 180, 3) := by decide +kernel
theorem dX5_vouch_77 : decode cX5_vouch 77 = .ok (.iconst 2, 1) := by decide +kernel
theorem dX5_vouch_78 : decode cX5_vouch 78 = .ok (.ireturn, 1) := by decide +kernel

set_option maxHeartbeats 4000000 in
set_option maxRecDepth 100000 in
theorem kX5_deliver (l : Launch) (dC : Nat → ClassId) (dI : Nat → Nat → Nat) (ca : Nat → ClassId) (ad : Nat → Nat) (S : sSt) (rr : Int32) (nb : Nat) (nr : Nat) (hb6 : nb ≤ 6) (hr2 : nr ≤ 200) (hri : RI nb nr S) (hrows : RW nb nr S) : ct_I l yX5_deliver (Cond.code yX5_deliver cX5_deliver 2 (some .int) :: wa_T) ({ frames := 4, cells := 0, slots := 0, locals := 98 } : Room) (dC, dI) vwCl (tyl ca) (wc ca ad) S [.ref (ad 0), .int rr] (fun r S2 => r = (dlF S rr).1 ∧ S2 = (dlF S rr).2) := by
  refine ct_ofI (by decide) (Nat.le_of_ble_eq_true rfl) ?_
  intro p e s m below meth c A ls hx hb hr hml hts hown hlocks hK hA hw hl
  have hl : lv_has ls 2 [(0, .ref (ad 0)), (1, .int rr)] := hl
  refine lv_aload_n hx hb dX5_deliver_0 rfl (lv_at hl 0 rfl) ?_
  refine wo_get hx hb hts inX5 hown hK hw 0 rfl rfl 2 (by decide) (hts _ wd_168) (fun _ h9 => h9) rfl dX5_deliver_1 ?_
  refine lv_iload_n hx hb dX5_deliver_4 rfl (lv_at hl 1 rfl) ?_
  refine wo_vI (As := [.int rr]) (rest := []) (kX3_has l dC dI ca ad S rr) ⟨hx, hb, hml, hown, hts⟩ (cwV 1 hts (wa_gV wd_269 wd_270 wd_271 wd_5 wd_272) rfl rfl rfl (by decide +kernel) ⟨Nat.le_of_ble_eq_true rfl, Nat.le_of_ble_eq_true rfl⟩) hK hw hA 3 rfl rfl rfl rfl hl.1 rfl (Nat.le_of_ble_eq_true rfl) dX5_deliver_5 ⟨Nat.zero_le _, Nat.zero_le _⟩ (fun r_1 S_1 H locs hp_1 hw => ?_)
  have e9 := hp_1.1.symm
  subst e9
  have e9 := hp_1.2.symm
  subst e9
  refine lv_if_eq (tgt := 24) hx hb dX5_deliver_8 (by decide) (fun c_2 => ?_) (fun c_2 => ?_)
  · skip
    have c_2 : hrw S rr = false := nb_0 c_2
    refine lv_iconst (v := (-1)) hx hb dX5_deliver_24 (by decide) ?_
    exact ct_iret (S := S) (v := (-1)) hx hb hr hlocks hK hw (⟨by simp only [dlF, dlR, c_2, decide_true, decide_false, Bool.not_true, Bool.not_false, Bool.true_and, Bool.and_true, Bool.false_and, Bool.and_false, Bool.or_true, Bool.true_or, Bool.or_false, Bool.false_or, Bool.false_eq_true, Bool.true_eq_false, if_true, if_false, ↓reduceIte], by simp only [dlF, dlR, c_2, decide_true, decide_false, Bool.not_true, Bool.not_false, Bool.true_and, Bool.and_true, Bool.false_and, Bool.and_false, Bool.or_true, Bool.true_or, Bool.or_false, Bool.false_or, Bool.false_eq_true, Bool.true_eq_false, if_true, if_false, ↓reduceIte]⟩) dX5_deliver_25
  · skip
    have c_2 : hrw S rr = true := nb_1 c_2
    obtain ⟨r9, hr9, hr9n, rfl⟩ := hrw_n hri.2.2 hr2 c_2
    have ec_r9 := nI_clamp (n := r9) (by omega)
    refine lv_aload_n hx hb dX5_deliver_11 rfl (lv_at hl 0 rfl) ?_
    refine wo_get hx hb hts inX5 hown hK hw 0 rfl rfl 2 (by decide) (hts _ wd_168) (fun _ h9 => h9) rfl dX5_deliver_12 ?_
    refine wo_get hx hb hts inX3 hown hK hw 3 rfl rfl 5 (by decide) (hts _ wd_100) (fun _ h9 => h9) rfl dX5_deliver_15 ?_
    refine lv_iload_n hx hb dX5_deliver_18 rfl (lv_at hl 1 rfl) ?_
    refine wo_iald hx hb hK hw 30 0 rfl rfl r9 rfl (by first | assumption | omega) (by decide) dX5_deliver_19 ?_
    refine lv_iconst (v := nI 2) hx hb dX5_deliver_20 (by decide) ?_
    refine lv_icmp_ne (tgt := 26) hx hb dX5_deliver_21 (by decide) (fun c_3 => ?_) (fun c_3 => ?_)
    · skip
      obtain ⟨b9, s9, f9, t9, hb9, hs9, hf9, ht9, e26, e27, e28, e29⟩ := hrows r9 hr9 hr9n
      have eb26 : (S.1 26 r9).toNatClampNeg = b9 := by rw [e26, nI_clamp (by omega)]
      have eb27 : (S.1 27 r9).toNatClampNeg = s9 := by rw [e27, nI_clamp (by omega)]
      have eb29 : (S.1 29 r9).toNatClampNeg = t9 := by rw [e29, nI_clamp (by omega)]
      refine lv_aload_n hx hb dX5_deliver_26 rfl (lv_at hl 0 rfl) ?_
      refine wo_get hx hb hts inX5 hown hK hw 0 rfl rfl 2 (by decide) (hts _ wd_168) (fun _ h9 => h9) rfl dX5_deliver_27 ?_
      refine wo_get hx hb hts inX3 hown hK hw 3 rfl rfl 6 (by decide) (hts _ wd_102) (fun _ h9 => h9) rfl dX5_deliver_30 ?_
      refine lv_iload_n hx hb dX5_deliver_33 rfl (lv_at hl 1 rfl) ?_
      refine lv_dup2_11 hx hb dX5_deliver_34 rfl rfl ?_
      refine wo_iald hx hb hK hw 31 0 rfl rfl r9 rfl (by first | assumption | omega) (by decide) dX5_deliver_35 ?_
      refine lv_iconst (v := nI 1) hx hb dX5_deliver_36 (by decide) ?_
      refine lv_iadd hx hb dX5_deliver_37 ?_
      refine wo_iast hx hb hK hw 31 0 rfl rfl r9 rfl (by first | assumption | omega) (by decide) (se_31 ca ad S r9 ((S.1 31 r9) + (nI 1))) dX5_deliver_38 (fun H locs hw => ?_)
      refine lv_aload_n hx hb dX5_deliver_39 rfl (lv_at hl 0 rfl) ?_
      refine wo_get hx hb hts inX5 hown hK hw 0 rfl rfl 2 (by decide) (hts _ wd_168) (fun _ h9 => h9) rfl dX5_deliver_40 ?_
      refine wo_get hx hb hts inX3 hown hK hw 3 rfl rfl 5 (by decide) (hts _ wd_100) (fun _ h9 => h9) rfl dX5_deliver_43 ?_
      refine lv_iload_n hx hb dX5_deliver_46 rfl (lv_at hl 1 rfl) ?_
      refine wo_iald hx hb hK hw 30 0 rfl rfl r9 rfl (by first | assumption | omega) (by decide) dX5_deliver_47 ?_
      refine lv_iconst (v := nI 1) hx hb dX5_deliver_48 (by decide) ?_
      refine lv_icmp_ne (tgt := 54) hx hb dX5_deliver_49 (by decide) (fun c_4 => ?_) (fun c_4 => ?_)
      · skip
        refine lv_aload_n hx hb dX5_deliver_54 rfl (lv_at hl 0 rfl) ?_
        refine wo_get hx hb hts inX5 hown hK hw 0 rfl rfl 2 (by decide) (hts _ wd_168) (fun _ h9 => h9) rfl dX5_deliver_55 ?_
        refine wo_get hx hb hts inX3 hown hK hw 3 rfl rfl 5 (by decide) (hts _ wd_100) (fun _ h9 => h9) rfl dX5_deliver_58 ?_
        refine lv_iload_n hx hb dX5_deliver_61 rfl (lv_at hl 1 rfl) ?_
        refine lv_iconst (v := nI 1) hx hb dX5_deliver_62 (by decide) ?_
        refine wo_iast hx hb hK hw 30 0 rfl rfl r9 rfl (by first | assumption | omega) (by decide) (se_30 ca ad (sI S 31 r9 ((S.1 31 r9) + (nI 1))) r9 (nI 1)) dX5_deliver_63 (fun H locs hw => ?_)
        refine lv_aload_n hx hb dX5_deliver_64 rfl (lv_at hl 0 rfl) ?_
        refine lv_aload_n hx hb dX5_deliver_65 rfl (lv_at hl 0 rfl) ?_
        refine wo_get hx hb hts inX5 hown hK hw 0 rfl rfl 2 (by decide) (hts _ wd_168) (fun _ h9 => h9) rfl dX5_deliver_66 ?_
        refine wo_get hx hb hts inX3 hown hK hw 3 rfl rfl 1 (by decide) (hts _ wd_92) (fun _ h9 => h9) rfl dX5_deliver_69 ?_
        refine lv_iload_n hx hb dX5_deliver_72 rfl (lv_at hl 1 rfl) ?_
        refine wo_iald hx hb hK hw 26 0 rfl rfl r9 rfl (by first | assumption | omega) (by decide) dX5_deliver_73 ?_
        refine tp_i (y := nI b9) (e26) ?_
        refine lv_aload_n hx hb dX5_deliver_74 rfl (lv_at hl 0 rfl) ?_
        refine wo_get hx hb hts inX5 hown hK hw 0 rfl rfl 2 (by decide) (hts _ wd_168) (fun _ h9 => h9) rfl dX5_deliver_75 ?_
        refine wo_get hx hb hts inX3 hown hK hw 3 rfl rfl 2 (by decide) (hts _ wd_94) (fun _ h9 => h9) rfl dX5_deliver_78 ?_
        refine lv_iload_n hx hb dX5_deliver_81 rfl (lv_at hl 1 rfl) ?_
        refine wo_iald hx hb hK hw 27 0 rfl rfl r9 rfl (by first | assumption | omega) (by decide) dX5_deliver_82 ?_
        refine tp_i (y := nI s9) (e27) ?_
        refine lv_aload_n hx hb dX5_deliver_83 rfl (lv_at hl 0 rfl) ?_
        refine wo_get hx hb hts inX5 hown hK hw 0 rfl rfl 2 (by decide) (hts _ wd_168) (fun _ h9 => h9) rfl dX5_deliver_84 ?_
        refine wo_get hx hb hts inX3 hown hK hw 3 rfl rfl 4 (by decide) (hts _ wd_98) (fun _ h9 => h9) rfl dX5_deliver_87 ?_
        refine lv_iload_n hx hb dX5_deliver_90 rfl (lv_at hl 1 rfl) ?_
        refine wo_iald hx hb hK hw 29 0 rfl rfl r9 rfl (by first | assumption | omega) (by decide) dX5_deliver_91 ?_
        refine tp_i (y := nI t9) (e29) ?_
        refine lv_aload_n hx hb dX5_deliver_92 rfl (lv_at hl 0 rfl) ?_
        refine wo_get hx hb hts inX5 hown hK hw 0 rfl rfl 2 (by decide) (hts _ wd_168) (fun _ h9 => h9) rfl dX5_deliver_93 ?_
        refine lv_iload_n hx hb dX5_deliver_96 rfl (lv_at hl 1 rfl) ?_
        refine wo_vL (As := [.int (nI r9)]) (rest := [.int (nI t9), .int (nI s9), .int (nI b9), .ref (ad 0)]) (kX3_empty l dC dI ca ad (sI (sI S 31 r9 ((S.1 31 r9) + (nI 1))) 30 r9 (nI 1)) r9 (by first | assumption | omega)) ⟨hx, hb, hml, hown, hts⟩ (cwV 1 hts (wa_gV wd_273 wd_274 wd_275 wd_5 wd_276) rfl rfl rfl (by decide +kernel) ⟨Nat.le_of_ble_eq_true rfl, Nat.le_of_ble_eq_true rfl⟩) hK hw hA 3 rfl rfl rfl rfl hl.1 rfl (Nat.le_of_ble_eq_true rfl) dX5_deliver_97 ⟨Nat.zero_le _, Nat.zero_le _⟩ (fun r_5 S_5 H locs hp_5 hw => ?_)
        have e9 := hp_5.1.symm
        subst e9
        have e9 := hp_5.2.symm
        subst e9
        refine wo_vV (As := [.int (nI b9), .int (nI s9), .int (nI t9), .long ((sI (sI S 31 r9 ((S.1 31 r9) + (nI 1))) 30 r9 (nI 1)).2 33 r9)]) (rest := []) (kX5_receive l dC dI ca ad (sL (sI (sI S 31 r9 ((S.1 31 r9) + (nI 1))) 30 r9 (nI 1)) 33 r9 0) b9 s9 t9 ((sI (sI S 31 r9 ((S.1 31 r9) + (nI 1))) 30 r9 (nI 1)).2 33 r9) nb nr (by first | assumption | omega) (by first | assumption | omega) (by first | assumption | omega) (RI_eq (RI_sI (RI_sI hri (by omega)) (by omega)) rfl)) ⟨hx, hb, hml, hown, hts⟩ (cwV 4 hts (wa_gV wd_277 wd_279 ws_3 wd_1 wd_280) rfl rfl rfl (by decide +kernel) ⟨Nat.le_of_ble_eq_true rfl, Nat.le_of_ble_eq_true rfl⟩) hK hw hA 0 rfl rfl rfl rfl hl.1 rfl (Nat.le_of_ble_eq_true rfl) dX5_deliver_100 ⟨Nat.zero_le _, Nat.zero_le _⟩ (fun S_6 H locs hp_6 hw => ?_)
        have eS_6 := hp_6
        refine lv_iconst (v := nI 1) hx hb dX5_deliver_103 (by decide) ?_
        exact ct_iret (S := S_6) (v := nI 1) hx hb hr hlocks hK hw (⟨by simp only [dlF, dlR, c_2, ec_r9, c_3, eb26, eb27, eb29, c_4, decide_true, decide_false, Bool.not_true, Bool.not_false, Bool.true_and, Bool.and_true, Bool.false_and, Bool.and_false, Bool.or_true, Bool.true_or, Bool.or_false, Bool.false_or, Bool.false_eq_true, Bool.true_eq_false, if_true, if_false, ↓reduceIte], by rw [eS_6]; simp only [dlF, dlR, c_2, ec_r9, c_3, eb26, eb27, eb29, c_4, decide_true, decide_false, Bool.not_true, Bool.not_false, Bool.true_and, Bool.and_true, Bool.false_and, Bool.and_false, Bool.or_true, Bool.true_or, Bool.or_false, Bool.false_or, Bool.false_eq_true, Bool.true_eq_false, if_true, if_false, ↓reduceIte]⟩) dX5_deliver_104
      · skip
        refine lv_iconst (v := nI 0) hx hb dX5_deliver_52 (by decide) ?_
        exact ct_iret (S := sI S 31 r9 ((S.1 31 r9) + (nI 1))) (v := nI 0) hx hb hr hlocks hK hw (⟨by simp only [dlF, dlR, c_2, ec_r9, c_3, eb26, eb27, eb29, c_4, decide_true, decide_false, Bool.not_true, Bool.not_false, Bool.true_and, Bool.and_true, Bool.false_and, Bool.and_false, Bool.or_true, Bool.true_or, Bool.or_false, Bool.false_or, Bool.false_eq_true, Bool.true_eq_false, if_true, if_false, ↓reduceIte], by simp only [dlF, dlR, c_2, ec_r9, c_3, eb26, eb27, eb29, c_4, decide_true, decide_false, Bool.not_true, Bool.not_false, Bool.true_and, Bool.and_true, Bool.false_and, Bool.and_false, Bool.or_true, Bool.true_or, Bool.or_false, Bool.false_or, Bool.false_eq_true, Bool.true_eq_false, if_true, if_false, ↓reduceIte]⟩) dX5_deliver_53
    · skip
      refine lv_iconst (v := (-1)) hx hb dX5_deliver_24 (by decide) ?_
      exact ct_iret (S := S) (v := (-1)) hx hb hr hlocks hK hw (⟨by simp only [dlF, dlR, c_2, ec_r9, c_3, decide_true, decide_false, Bool.not_true, Bool.not_false, Bool.true_and, Bool.and_true, Bool.false_and, Bool.and_false, Bool.or_true, Bool.true_or, Bool.or_false, Bool.false_or, Bool.false_eq_true, Bool.true_eq_false, if_true, if_false, ↓reduceIte], by simp only [dlF, dlR, c_2, ec_r9, c_3, decide_true, decide_false, Bool.not_true, Bool.not_false, Bool.true_and, Bool.and_true, Bool.false_and, Bool.and_false, Bool.or_true, Bool.true_or, Bool.or_false, Bool.false_or, Bool.false_eq_true, Bool.true_eq_false, if_true, if_false, ↓reduceIte]⟩) dX5_deliver_25

set_option maxHeartbeats 4000000 in
set_option maxRecDepth 100000 in
theorem kX5_lose (l : Launch) (dC : Nat → ClassId) (dI : Nat → Nat → Nat) (ca : Nat → ClassId) (ad : Nat → Nat) (S : sSt) (rr : Int32) (nb : Nat) (nr : Nat) (hb6 : nb ≤ 6) (hr2 : nr ≤ 200) (hri : RI nb nr S) : ct_I l yX5_lose (Cond.code yX5_lose cX5_lose 2 (some .boolean) :: wa_T) ({ frames := 1, cells := 0, slots := 0, locals := 21 } : Room) (dC, dI) vwCl (tyl ca) (wc ca ad) S [.ref (ad 0), .int rr] (fun r S2 => r = bI (lsOk S rr) ∧ S2 = (if lsOk S rr = true then sI S 30 rr.toNatClampNeg (nI 2) else S)) := by
  refine ct_ofI (by decide) (Nat.le_of_ble_eq_true rfl) ?_
  intro p e s m below meth c A ls hx hb hr hml hts hown hlocks hK hA hw hl
  have hl : lv_has ls 2 [(0, .ref (ad 0)), (1, .int rr)] := hl
  refine lv_aload_n hx hb dX5_lose_0 rfl (lv_at hl 0 rfl) ?_
  refine wo_get hx hb hts inX5 hown hK hw 0 rfl rfl 2 (by decide) (hts _ wd_168) (fun _ h9 => h9) rfl dX5_lose_1 ?_
  refine lv_iload_n hx hb dX5_lose_4 rfl (lv_at hl 1 rfl) ?_
  refine wo_vI (As := [.int rr]) (rest := []) (kX3_has l dC dI ca ad S rr) ⟨hx, hb, hml, hown, hts⟩ (cwV 1 hts (wa_gV wd_269 wd_270 wd_271 wd_5 wd_272) rfl rfl rfl (by decide +kernel) ⟨Nat.le_of_ble_eq_true rfl, Nat.le_of_ble_eq_true rfl⟩) hK hw hA 3 rfl rfl rfl rfl hl.1 rfl (Nat.le_of_ble_eq_true rfl) dX5_lose_5 ⟨Nat.zero_le _, Nat.zero_le _⟩ (fun r_1 S_1 H locs hp_1 hw => ?_)
  have e9 := hp_1.1.symm
  subst e9
  have e9 := hp_1.2.symm
  subst e9
  refine lv_if_eq (tgt := 23) hx hb dX5_lose_8 (by decide) (fun c_2 => ?_) (fun c_2 => ?_)
  · skip
    have c_2 : hrw S rr = false := nb_0 c_2
    refine lv_iconst (v := nI 0) hx hb dX5_lose_23 (by decide) ?_
    exact ct_zret (S := S) (v := nI 0) hx hb hr hlocks hK (by first | decide | exact nb_z _) hw (⟨by simp only [bI, lsOk, c_2, decide_true, decide_false, Bool.not_true, Bool.not_false, Bool.true_and, Bool.and_true, Bool.false_and, Bool.and_false, Bool.or_true, Bool.true_or, Bool.or_false, Bool.false_or, Bool.false_eq_true, Bool.true_eq_false, if_true, if_false, ↓reduceIte], by simp only [lsOk, c_2, decide_true, decide_false, Bool.not_true, Bool.not_false, Bool.true_and, Bool.and_true, Bool.false_and, Bool.and_false, Bool.or_true, Bool.true_or, Bool.or_false, Bool.false_or, Bool.false_eq_true, Bool.true_eq_false, if_true, if_false, ↓reduceIte]⟩) dX5_lose_24
  · skip
    have c_2 : hrw S rr = true := nb_1 c_2
    obtain ⟨r9, hr9, hr9n, rfl⟩ := hrw_n hri.2.2 hr2 c_2
    have ec_r9 := nI_clamp (n := r9) (by omega)
    refine lv_aload_n hx hb dX5_lose_11 rfl (lv_at hl 0 rfl) ?_
    refine wo_get hx hb hts inX5 hown hK hw 0 rfl rfl 2 (by decide) (hts _ wd_168) (fun _ h9 => h9) rfl dX5_lose_12 ?_
    refine wo_get hx hb hts inX3 hown hK hw 3 rfl rfl 5 (by decide) (hts _ wd_100) (fun _ h9 => h9) rfl dX5_lose_15 ?_
    refine lv_iload_n hx hb dX5_lose_18 rfl (lv_at hl 1 rfl) ?_
    refine wo_iald hx hb hK hw 30 0 rfl rfl r9 rfl (by first | assumption | omega) (by decide) dX5_lose_19 ?_
    refine lv_if_eq (tgt := 25) hx hb dX5_lose_20 (by decide) (fun c_3 => ?_) (fun c_3 => ?_)
    · skip
      refine lv_aload_n hx hb dX5_lose_25 rfl (lv_at hl 0 rfl) ?_
      refine wo_get hx hb hts inX5 hown hK hw 0 rfl rfl 2 (by decide) (hts _ wd_168) (fun _ h9 => h9) rfl dX5_lose_26 ?_
      refine wo_get hx hb hts inX3 hown hK hw 3 rfl rfl 5 (by decide) (hts _ wd_100) (fun _ h9 => h9) rfl dX5_lose_29 ?_
      refine lv_iload_n hx hb dX5_lose_32 rfl (lv_at hl 1 rfl) ?_
      refine lv_iconst (v := nI 2) hx hb dX5_lose_33 (by decide) ?_
      refine wo_iast hx hb hK hw 30 0 rfl rfl r9 rfl (by first | assumption | omega) (by decide) (se_30 ca ad S r9 (nI 2)) dX5_lose_34 (fun H locs hw => ?_)
      refine lv_iconst (v := nI 1) hx hb dX5_lose_35 (by decide) ?_
      exact ct_zret (S := sI S 30 r9 (nI 2)) (v := nI 1) hx hb hr hlocks hK (by first | decide | exact nb_z _) hw (⟨by simp only [bI, lsOk, c_2, ec_r9, c_3, decide_true, decide_false, Bool.not_true, Bool.not_false, Bool.true_and, Bool.and_true, Bool.false_and, Bool.and_false, Bool.or_true, Bool.true_or, Bool.or_false, Bool.false_or, Bool.false_eq_true, Bool.true_eq_false, if_true, if_false, ↓reduceIte], by simp only [lsOk, c_2, ec_r9, c_3, decide_true, decide_false, Bool.not_true, Bool.not_false, Bool.true_and, Bool.and_true, Bool.false_and, Bool.and_false, Bool.or_true, Bool.true_or, Bool.or_false, Bool.false_or, Bool.false_eq_true, Bool.true_eq_false, if_true, if_false, ↓reduceIte]⟩) dX5_lose_36
    · skip
      refine lv_iconst (v := nI 0) hx hb dX5_lose_23 (by decide) ?_
      exact ct_zret (S := S) (v := nI 0) hx hb hr hlocks hK (by first | decide | exact nb_z _) hw (⟨by simp only [bI, lsOk, c_2, ec_r9, c_3, decide_true, decide_false, Bool.not_true, Bool.not_false, Bool.true_and, Bool.and_true, Bool.false_and, Bool.and_false, Bool.or_true, Bool.true_or, Bool.or_false, Bool.false_or, Bool.false_eq_true, Bool.true_eq_false, if_true, if_false, ↓reduceIte], by simp only [lsOk, c_2, ec_r9, c_3, decide_true, decide_false, Bool.not_true, Bool.not_false, Bool.true_and, Bool.and_true, Bool.false_and, Bool.and_false, Bool.or_true, Bool.true_or, Bool.or_false, Bool.false_or, Bool.false_eq_true, Bool.true_eq_false, if_true, if_false, ↓reduceIte]⟩) dX5_lose_24

set_option maxHeartbeats 4000000 in
set_option maxRecDepth 100000 in
theorem kX5_end (l : Launch) (dC : Nat → ClassId) (dI : Nat → Nat → Nat) (ca : Nat → ClassId) (ad : Nat → Nat) (S : sSt) (pp : Int32) (nb : Nat) (nr : Nat) (hb6 : nb ≤ 6) (hr2 : nr ≤ 200) (hri : RI nb nr S) : ct_I l yX5_end (Cond.code yX5_end cX5_end 3 (some .boolean) :: wa_T) ({ frames := 5, cells := 0, slots := 0, locals := 122 } : Room) (dC, dI) vwCl (tyl ca) (wc ca ad) S [.ref (ad 0), .int pp] (fun r S2 => r = bI (wl S pp) ∧ S2 = enF S nb nr pp) := by
  refine ct_ofI (by decide) (Nat.le_of_ble_eq_true rfl) ?_
  intro p e s m below meth c A ls hx hb hr hml hts hown hlocks hK hA hw hl
  have hl : lv_has ls 3 [(0, .ref (ad 0)), (1, .int pp)] := hl
  refine lv_aload_n hx hb dX5_end_0 rfl (lv_at hl 0 rfl) ?_
  refine wo_get hx hb hts inX5 hown hK hw 0 rfl rfl 0 (by decide) (hts _ wd_166) (fun _ h9 => h9) rfl dX5_end_1 ?_
  refine lv_iload_n hx hb dX5_end_4 rfl (lv_at hl 1 rfl) ?_
  refine wo_vI (As := [.int pp]) (rest := []) (kX1_isWell l dC dI ca ad S pp) ⟨hx, hb, hml, hown, hts⟩ (cwV 1 hts (wa_gV wd_192 wd_193 wd_194 wd_2 wd_195) rfl rfl rfl (by decide +kernel) ⟨Nat.le_of_ble_eq_true rfl, Nat.le_of_ble_eq_true rfl⟩) hK hw hA 1 rfl rfl rfl rfl hl.1 rfl (Nat.le_of_ble_eq_true rfl) dX5_end_5 ⟨Nat.zero_le _, Nat.zero_le _⟩ (fun r_1 S_1 H locs hp_1 hw => ?_)
  have e9 := hp_1.1.symm
  subst e9
  have e9 := hp_1.2.symm
  subst e9
  refine lv_if_ne (tgt := 13) hx hb dX5_end_8 (by decide) (fun c_2 => ?_) (fun c_2 => ?_)
  · skip
    have c_2 : wl S pp = true := nb_1 c_2
    obtain ⟨p9, hp9, rfl⟩ := wl_n c_2
    have ec_p9 := nI_clamp (n := p9) (by omega)
    have hwl := c_2
    have hS0 := RI_end hp9 hri (nI 1)
    refine lv_aload_n hx hb dX5_end_13 rfl (lv_at hl 0 rfl) ?_
    refine wo_get hx hb hts inX5 hown hK hw 0 rfl rfl 0 (by decide) (hts _ wd_166) (fun _ h9 => h9) rfl dX5_end_14 ?_
    refine wo_get hx hb hts inX1 hown hK hw 1 rfl rfl 2 (by decide) (hts _ wd_40) (fun _ h9 => h9) rfl dX5_end_17 ?_
    refine lv_iload_n hx hb dX5_end_20 rfl (lv_at hl 1 rfl) ?_
    refine lv_iconst (v := nI 1) hx hb dX5_end_21 (by decide) ?_
    refine wo_iast hx hb hK hw 8 0 rfl rfl p9 rfl (by first | assumption | omega) (by decide) (se_8 ca ad S p9 (nI 1)) dX5_end_22 (fun H locs hw => ?_)
    refine lv_aload_n hx hb dX5_end_23 rfl (lv_at hl 0 rfl) ?_
    refine wo_get hx hb hts inX5 hown hK hw 0 rfl rfl 3 (by decide) (hts _ wd_169) (fun _ h9 => h9) rfl dX5_end_24 ?_
    refine lv_iload_n hx hb dX5_end_27 rfl (lv_at hl 1 rfl) ?_
    refine wo_vV (As := [.int (nI p9)]) (rest := []) (kX2_clear l dC dI ca ad (sI S 8 p9 (nI 1)) p9 (by first | assumption | omega)) ⟨hx, hb, hml, hown, hts⟩ (cwV 1 hts (wa_gV wd_297 wd_298 wd_299 wd_6 wd_300) rfl rfl rfl (by decide +kernel) ⟨Nat.le_of_ble_eq_true rfl, Nat.le_of_ble_eq_true rfl⟩) hK hw hA 4 rfl rfl rfl rfl hl.1 rfl (Nat.le_of_ble_eq_true rfl) dX5_end_28 ⟨Nat.zero_le _, Nat.zero_le _⟩ (fun S_3 H locs hp_3 hw => ?_)
    have e9 := hp_3.symm
    subst e9
    refine lv_iconst (v := nI 0) hx hb dX5_end_31 (by decide) ?_
    refine lv_istore_n (lv' := [(2, .int (nI 0)), (0, .ref (ad 0)), (1, .int (nI p9))]) hx hb dX5_end_32 rfl hl (by decide) rfl (fun ls hl => ?_)
    have lp_33 : ∀ (n : Nat) (i : Nat), i ≤ 6 → 7 ≤ i + n → ∀ (H : Heap) (locs : List Loc) (ls : Array Slot), wo_w (dC, dI) vwCl A s.heap (wc ca ad (enL nb nr (sI (sI S 8 p9 (nI 1)) 34 p9 (nI 0)) i)) H locs → lv_has ls 3 [(0, .ref (ad 0)), (2, .int (nI i))] → W p l e ({ frames := 5, cells := 0, slots := 0, locals := 122 } : Room) s m ([.ref (ad 0), .int (nI p9)] : List Value).toArray below meth c H locs 0 0 (MQ below (va_Qi (fun r S2 => r = bI (wl S (nI p9)) ∧ S2 = enF S nb nr (nI p9)) (ct_B (dC, dI) vwCl (tyl ca) (wc ca ad) A) A) ([.ref (ad 0), .int (nI p9)] : List Value).toArray s 0 0 A) (F0 m 33 ls []) := by
      intro n
      induction n with
      | zero =>
        intro i hi hn
        exfalso
        omega
      | succ n ih_33 =>
        intro i hi hn H locs ls hw hl
        refine lv_iload_n hx hb dX5_end_33 rfl (lv_at hl 1 rfl) ?_
        refine lv_bipush (v := nI 6) hx hb dX5_end_34 (by decide) ?_
        refine lv_icmp_ge (tgt := 61) hx hb dX5_end_36 (by decide) (fun c_4 => ?_) (fun c_4 => ?_)
        · skip
          have c_4 : 6 ≤ i := (nI_leI (a := 6) (b := i) (by omega) (by omega)).mp c_4
          obtain rfl : 6 = i := by omega
          refine lv_iconst (v := nI 1) hx hb dX5_end_61 (by decide) ?_
          exact ct_zret (S := enL nb nr (sI (sI S 8 p9 (nI 1)) 34 p9 (nI 0)) 6) (v := nI 1) hx hb hr hlocks hK (by first | decide | exact nb_z _) hw (⟨by simp only [bI, hwl, ↓reduceIte], by simp only [enF, hwl, ec_p9, ↓reduceIte]⟩) dX5_end_62
        · skip
          have c_4 : ¬ (6 ≤ i) := fun h9 => c_4 ((nI_leI (a := 6) (b := i) (by omega) (by omega)).mpr h9)
          refine lv_aload_n hx hb dX5_end_39 rfl (lv_at hl 0 rfl) ?_
          refine wo_get hx hb hts inX5 hown hK hw 0 rfl rfl 0 (by decide) (hts _ wd_166) (fun _ h9 => h9) rfl dX5_end_40 ?_
          refine lv_iload_n hx hb dX5_end_43 rfl (lv_at hl 1 rfl) ?_
          refine wo_vI (As := [.int (nI i)]) (rest := []) (kX1_canBeRecovered l dC dI ca ad (enL nb nr (sI (sI S 8 p9 (nI 1)) 34 p9 (nI 0)) i) i (by first | assumption | omega)) ⟨hx, hb, hml, hown, hts⟩ (cwV 1 hts (wa_gV wd_301 wd_302 wd_303 wd_2 wd_304) rfl rfl rfl (by decide +kernel) ⟨Nat.le_of_ble_eq_true rfl, Nat.le_of_ble_eq_true rfl⟩) hK hw hA 1 rfl rfl rfl rfl hl.1 rfl (Nat.le_of_ble_eq_true rfl) dX5_end_44 ⟨Nat.zero_le _, Nat.zero_le _⟩ (fun r_5 S_5 H locs hp_5 hw => ?_)
          have e9 := hp_5.1.symm
          subst e9
          have e9 := hp_5.2.symm
          subst e9
          refine lv_if_eq (tgt := 55) hx hb dX5_end_47 (by decide) (fun c_6 => ?_) (fun c_6 => ?_)
          · skip
            have c_6 : cr (enL nb nr (sI (sI S 8 p9 (nI 1)) 34 p9 (nI 0)) i) i = false := nb_0 c_6
            refine lv_iinc (v := nI (i + 1)) (lv' := [(2, .int (nI (i + 1))), (0, .ref (ad 0))]) hx hb dX5_end_55 hl (k := 1) rfl (nI_inc _) (by decide) rfl (fun ls hl => ?_)
            refine lv_goto (tgt := 33) hx hb dX5_end_58 (by decide) ?_
            have e9 : enL nb nr (sI (sI S 8 p9 (nI 1)) 34 p9 (nI 0)) i = enL nb nr (sI (sI S 8 p9 (nI 1)) 34 p9 (nI 0)) (i + 1) := by first | rfl | (simp only [enL, c_4, c_6, decide_true, decide_false, Bool.not_true, Bool.not_false, Bool.true_and, Bool.and_true, Bool.false_and, Bool.and_false, Bool.or_true, Bool.true_or, Bool.or_false, Bool.false_or, Bool.false_eq_true, Bool.true_eq_false, if_true, if_false, ↓reduceIte]; done)
            rw [e9] at hw
            exact ih_33 (i + 1) (by omega) (by omega) _ _ _ hw (lv_sub hl [1, 0] rfl)
          · skip
            have c_6 : cr (enL nb nr (sI (sI S 8 p9 (nI 1)) 34 p9 (nI 0)) i) i = true := nb_1 c_6
            refine lv_aload_n hx hb dX5_end_50 rfl (lv_at hl 0 rfl) ?_
            refine lv_iload_n hx hb dX5_end_51 rfl (lv_at hl 1 rfl) ?_
            refine wo_vV (As := [.int (nI i)]) (rest := []) (kX5_recover l dC dI ca ad (enL nb nr (sI (sI S 8 p9 (nI 1)) 34 p9 (nI 0)) i) i nb nr (by first | assumption | omega) (by first | assumption | omega) (by first | assumption | omega) (RI_enL hS0 i)) ⟨hx, hb, hml, hown, hts⟩ (cwV 1 hts (wa_gV wd_305 wd_307 ws_5 wd_1 wd_308) rfl rfl rfl (by decide +kernel) ⟨Nat.le_of_ble_eq_true rfl, Nat.le_of_ble_eq_true rfl⟩) hK hw hA 0 rfl rfl rfl rfl hl.1 rfl (Nat.le_of_ble_eq_true rfl) dX5_end_52 ⟨Nat.zero_le _, Nat.zero_le _⟩ (fun S_7 H locs hp_7 hw => ?_)
            have eS_7 := hp_7
            refine lv_iinc (v := nI (i + 1)) (lv' := [(2, .int (nI (i + 1))), (0, .ref (ad 0))]) hx hb dX5_end_55 hl (k := 1) rfl (nI_inc _) (by decide) rfl (fun ls hl => ?_)
            refine lv_goto (tgt := 33) hx hb dX5_end_58 (by decide) ?_
            have e9 : S_7 = enL nb nr (sI (sI S 8 p9 (nI 1)) 34 p9 (nI 0)) (i + 1) := by rw [eS_7]; simp only [enL, c_4, c_6, ↓reduceIte]
            rw [e9] at hw
            exact ih_33 (i + 1) (by omega) (by omega) _ _ _ hw (lv_sub hl [1, 0] rfl)
    have e9 : sI (sI S 8 p9 (nI 1)) 34 p9 (nI 0) = enL nb nr (sI (sI S 8 p9 (nI 1)) 34 p9 (nI 0)) 0 := by first | rfl | (simp only [enL, c_2, ec_p9, decide_true, decide_false, Bool.not_true, Bool.not_false, Bool.true_and, Bool.and_true, Bool.false_and, Bool.and_false, Bool.or_true, Bool.true_or, Bool.or_false, Bool.false_or, Bool.false_eq_true, Bool.true_eq_false, if_true, if_false, ↓reduceIte]; done)
    rw [e9] at hw
    exact lp_33 7 0 (by omega) (by omega) _ _ _ hw (lv_sub hl [1, 0] rfl)
  · skip
    have c_2 : wl S pp = false := nb_0 c_2
    refine lv_iconst (v := nI 0) hx hb dX5_end_11 (by decide) ?_
    exact ct_zret (S := S) (v := nI 0) hx hb hr hlocks hK (by first | decide | exact nb_z _) hw (⟨by simp only [bI, c_2, decide_true, decide_false, Bool.not_true, Bool.not_false, Bool.true_and, Bool.and_true, Bool.false_and, Bool.and_false, Bool.or_true, Bool.true_or, Bool.or_false, Bool.false_or, Bool.false_eq_true, Bool.true_eq_false, if_true, if_false, ↓reduceIte], by simp only [enF, c_2, decide_true, decide_false, Bool.not_true, Bool.not_false, Bool.true_and, Bool.and_true, Bool.false_and, Bool.and_false, Bool.or_true, Bool.true_or, Bool.or_false, Bool.false_or, Bool.false_eq_true, Bool.true_eq_false, if_true, if_false, ↓reduceIte]⟩) dX5_end_12

set_option maxHeartbeats 4000000 in
set_option maxRecDepth 100000 in
theorem kX5_vouch (l : Launch) (dC : Nat → ClassId) (dI : Nat → Nat → Nat) (ca : Nat → ClassId) (ad : Nat → Nat) (S : sSt) (pp : Int32) (ee : Int32) (nb : Nat) (nr : Nat) (hb6 : nb ≤ 6) (hr2 : nr ≤ 200) (hri : RI nb nr S) : ct_I l yX5_vouch (Cond.code yX5_vouch cX5_vouch 3 (some .int) :: wa_T) ({ frames := 5, cells := 0, slots := 0, locals := 122 } : Room) (dC, dI) vwCl (tyl ca) (wc ca ad) S [.ref (ad 0), .int pp, .int ee] (fun r S2 => r = (vcF S nb nr pp ee).1 ∧ S2 = (vcF S nb nr pp ee).2) := by
  refine ct_ofI (by decide) (Nat.le_of_ble_eq_true rfl) ?_
  intro p e s m below meth c A ls hx hb hr hml hts hown hlocks hK hA hw hl
  have hl : lv_has ls 3 [(0, .ref (ad 0)), (1, .int pp), (2, .int ee)] := hl
  refine lv_aload_n hx hb dX5_vouch_0 rfl (lv_at hl 0 rfl) ?_
  refine wo_get hx hb hts inX5 hown hK hw 0 rfl rfl 0 (by decide) (hts _ wd_166) (fun _ h9 => h9) rfl dX5_vouch_1 ?_
  refine lv_iload_n hx hb dX5_vouch_4 rfl (lv_at hl 1 rfl) ?_
  refine wo_vI (As := [.int pp]) (rest := []) (kX1_isWell l dC dI ca ad S pp) ⟨hx, hb, hml, hown, hts⟩ (cwV 1 hts (wa_gV wd_192 wd_193 wd_194 wd_2 wd_195) rfl rfl rfl (by decide +kernel) ⟨Nat.le_of_ble_eq_true rfl, Nat.le_of_ble_eq_true rfl⟩) hK hw hA 1 rfl rfl rfl rfl hl.1 rfl (Nat.le_of_ble_eq_true rfl) dX5_vouch_5 ⟨Nat.zero_le _, Nat.zero_le _⟩ (fun r_1 S_1 H locs hp_1 hw => ?_)
  have e9 := hp_1.1.symm
  subst e9
  have e9 := hp_1.2.symm
  subst e9
  refine lv_if_eq (tgt := 30) hx hb dX5_vouch_8 (by decide) (fun c_2 => ?_) (fun c_2 => ?_)
  · skip
    have c_2 : wl S pp = false := nb_0 c_2
    refine lv_iconst (v := (-1)) hx hb dX5_vouch_30 (by decide) ?_
    exact ct_iret (S := S) (v := (-1)) hx hb hr hlocks hK hw (⟨by simp only [vcF, vcG, vcR, nI_20, c_2, decide_true, decide_false, Bool.not_true, Bool.not_false, Bool.true_and, Bool.and_true, Bool.false_and, Bool.and_false, Bool.or_true, Bool.true_or, Bool.or_false, Bool.false_or, Bool.false_eq_true, Bool.true_eq_false, if_true, if_false, ↓reduceIte], by simp only [vcF, vcG, vcR, nI_20, c_2, decide_true, decide_false, Bool.not_true, Bool.not_false, Bool.true_and, Bool.and_true, Bool.false_and, Bool.and_false, Bool.or_true, Bool.true_or, Bool.or_false, Bool.false_or, Bool.false_eq_true, Bool.true_eq_false, if_true, if_false, ↓reduceIte]⟩) dX5_vouch_31
  · skip
    have c_2 : wl S pp = true := nb_1 c_2
    obtain ⟨p9, hp9, rfl⟩ := wl_n c_2
    have ec_p9 := nI_clamp (n := p9) (by omega)
    refine lv_iload_n hx hb dX5_vouch_11 rfl (lv_at hl 2 rfl) ?_
    refine wo_sI (As := [.int ee]) (rest := []) (kX1_has l dC dI ca ad S ee) ⟨hx, hb, hml, hown, hts⟩ (va_cwS 1 hts (wa_gS wd_344 wd_197 wd_2 wd_198) rfl rfl rfl (by decide +kernel) ⟨Nat.le_of_ble_eq_true rfl, Nat.le_of_ble_eq_true rfl⟩) hK hw hA rfl hl.1 rfl (Nat.le_of_ble_eq_true rfl) dX5_vouch_12 ⟨Nat.zero_le _, Nat.zero_le _⟩ (fun r_3 S_3 H locs hp_3 hw => ?_)
    have e9 := hp_3.1.symm
    subst e9
    have e9 := hp_3.2.symm
    subst e9
    refine lv_if_eq (tgt := 30) hx hb dX5_vouch_15 (by decide) (fun c_4 => ?_) (fun c_4 => ?_)
    · skip
      have c_4 : h6 ee = false := nb_0 c_4
      refine lv_iconst (v := (-1)) hx hb dX5_vouch_30 (by decide) ?_
      exact ct_iret (S := S) (v := (-1)) hx hb hr hlocks hK hw (⟨by simp only [vcF, vcG, vcR, nI_20, c_2, ec_p9, c_4, decide_true, decide_false, Bool.not_true, Bool.not_false, Bool.true_and, Bool.and_true, Bool.false_and, Bool.and_false, Bool.or_true, Bool.true_or, Bool.or_false, Bool.false_or, Bool.false_eq_true, Bool.true_eq_false, if_true, if_false, ↓reduceIte], by simp only [vcF, vcG, vcR, nI_20, c_2, ec_p9, c_4, decide_true, decide_false, Bool.not_true, Bool.not_false, Bool.true_and, Bool.and_true, Bool.false_and, Bool.and_false, Bool.or_true, Bool.true_or, Bool.or_false, Bool.false_or, Bool.false_eq_true, Bool.true_eq_false, if_true, if_false, ↓reduceIte]⟩) dX5_vouch_31
    · skip
      have c_4 : h6 ee = true := nb_1 c_4
      obtain ⟨e9, he9, rfl⟩ := h6_n c_4
      have ec_e9 := nI_clamp (n := e9) (by omega)
      refine lv_aload_n hx hb dX5_vouch_18 rfl (lv_at hl 0 rfl) ?_
      refine wo_get hx hb hts inX5 hown hK hw 0 rfl rfl 0 (by decide) (hts _ wd_166) (fun _ h9 => h9) rfl dX5_vouch_19 ?_
      refine wo_get hx hb hts inX1 hown hK hw 1 rfl rfl 2 (by decide) (hts _ wd_40) (fun _ h9 => h9) rfl dX5_vouch_22 ?_
      refine lv_iload_n hx hb dX5_vouch_25 rfl (lv_at hl 2 rfl) ?_
      refine wo_iald hx hb hK hw 8 0 rfl rfl e9 rfl (by first | assumption | omega) (by decide) dX5_vouch_26 ?_
      refine lv_if_ne (tgt := 32) hx hb dX5_vouch_27 (by decide) (fun c_5 => ?_) (fun c_5 => ?_)
      · skip
        refine lv_aload_n hx hb dX5_vouch_32 rfl (lv_at hl 0 rfl) ?_
        refine wo_get hx hb hts inX5 hown hK hw 0 rfl rfl 0 (by decide) (hts _ wd_166) (fun _ h9 => h9) rfl dX5_vouch_33 ?_
        refine wo_get hx hb hts inX1 hown hK hw 1 rfl rfl 2 (by decide) (hts _ wd_40) (fun _ h9 => h9) rfl dX5_vouch_36 ?_
        refine lv_iload_n hx hb dX5_vouch_39 rfl (lv_at hl 2 rfl) ?_
        refine wo_iald hx hb hK hw 8 0 rfl rfl e9 rfl (by first | assumption | omega) (by decide) dX5_vouch_40 ?_
        refine lv_iconst (v := nI 2) hx hb dX5_vouch_41 (by decide) ?_
        refine lv_icmp_eq (tgt := 57) hx hb dX5_vouch_42 (by decide) (fun c_6 => ?_) (fun c_6 => ?_)
        · skip
          refine lv_iconst (v := nI 0) hx hb dX5_vouch_57 (by decide) ?_
          exact ct_iret (S := S) (v := nI 0) hx hb hr hlocks hK hw (⟨by simp only [vcF, vcG, vcR, nI_20, c_2, ec_p9, c_4, ec_e9, c_5, c_6, decide_true, decide_false, Bool.not_true, Bool.not_false, Bool.true_and, Bool.and_true, Bool.false_and, Bool.and_false, Bool.or_true, Bool.true_or, Bool.or_false, Bool.false_or, Bool.false_eq_true, Bool.true_eq_false, if_true, if_false, ↓reduceIte], by simp only [vcF, vcG, vcR, nI_20, c_2, ec_p9, c_4, ec_e9, c_5, c_6, decide_true, decide_false, Bool.not_true, Bool.not_false, Bool.true_and, Bool.and_true, Bool.false_and, Bool.and_false, Bool.or_true, Bool.true_or, Bool.or_false, Bool.false_or, Bool.false_eq_true, Bool.true_eq_false, if_true, if_false, ↓reduceIte]⟩) dX5_vouch_58
        · skip
          refine lv_aload_n hx hb dX5_vouch_45 rfl (lv_at hl 0 rfl) ?_
          refine wo_get hx hb hts inX5 hown hK hw 0 rfl rfl 0 (by decide) (hts _ wd_166) (fun _ h9 => h9) rfl dX5_vouch_46 ?_
          refine lv_iload_n hx hb dX5_vouch_49 rfl (lv_at hl 1 rfl) ?_
          refine lv_iload_n hx hb dX5_vouch_50 rfl (lv_at hl 2 rfl) ?_
          refine wo_vI (As := [.int (nI p9), .int (nI e9)]) (rest := []) (kX1_tell l dC dI ca ad S p9 e9 (by first | assumption | omega) (by first | assumption | omega)) ⟨hx, hb, hml, hown, hts⟩ (cwV 2 hts (wa_gV wd_345 wd_346 wd_347 wd_2 wd_348) rfl rfl rfl (by decide +kernel) ⟨Nat.le_of_ble_eq_true rfl, Nat.le_of_ble_eq_true rfl⟩) hK hw hA 1 rfl rfl rfl rfl hl.1 rfl (Nat.le_of_ble_eq_true rfl) dX5_vouch_51 ⟨Nat.zero_le _, Nat.zero_le _⟩ (fun r_7 S_7 H locs hp_7 hw => ?_)
          have e9 := hp_7.1.symm
          subst e9
          have e9 := hp_7.2.symm
          subst e9
          refine lv_if_ne (tgt := 59) hx hb dX5_vouch_54 (by decide) (fun c_8 => ?_) (fun c_8 => ?_)
          · skip
            have c_8 : tk S e9 p9 = true := nb_1 c_8
            rw [if_pos c_8] at hw
            have hvc : RI nb nr (vcT S p9 e9) := RI_sI hri (by omega)
            have hw : wo_w (dC, dI) vwCl A s.heap (wc ca ad (vcT S p9 e9)) H locs := hw
            refine lv_aload_n hx hb dX5_vouch_59 rfl (lv_at hl 0 rfl) ?_
            refine wo_get hx hb hts inX5 hown hK hw 0 rfl rfl 0 (by decide) (hts _ wd_166) (fun _ h9 => h9) rfl dX5_vouch_60 ?_
            refine lv_iload_n hx hb dX5_vouch_63 rfl (lv_at hl 2 rfl) ?_
            refine wo_vI (As := [.int (nI e9)]) (rest := []) (kX1_canBeRecovered l dC dI ca ad (vcT S p9 e9) e9 (by first | assumption | omega)) ⟨hx, hb, hml, hown, hts⟩ (cwV 1 hts (wa_gV wd_301 wd_302 wd_303 wd_2 wd_304) rfl rfl rfl (by decide +kernel) ⟨Nat.le_of_ble_eq_true rfl, Nat.le_of_ble_eq_true rfl⟩) hK hw hA 1 rfl rfl rfl rfl hl.1 rfl (Nat.le_of_ble_eq_true rfl) dX5_vouch_64 ⟨Nat.zero_le _, Nat.zero_le _⟩ (fun r_9 S_9 H locs hp_9 hw => ?_)
            have e9 := hp_9.1.symm
            subst e9
            have e9 := hp_9.2.symm
            subst e9
            refine lv_if_ne (tgt := 72) hx hb dX5_vouch_67 (by decide) (fun c_10 => ?_) (fun c_10 => ?_)
            · skip
              have c_10 : cr (vcT S p9 e9) e9 = true := nb_1 c_10
              refine lv_aload_n hx hb dX5_vouch_72 rfl (lv_at hl 0 rfl) ?_
              refine lv_iload_n hx hb dX5_vouch_73 rfl (lv_at hl 2 rfl) ?_
              refine wo_vV (As := [.int (nI e9)]) (rest := []) (kX5_recover l dC dI ca ad (vcT S p9 e9) e9 nb nr (by first | assumption | omega) (by first | assumption | omega) (by first | assumption | omega) hvc) ⟨hx, hb, hml, hown, hts⟩ (cwV 1 hts (wa_gV wd_305 wd_307 ws_5 wd_1 wd_308) rfl rfl rfl (by decide +kernel) ⟨Nat.le_of_ble_eq_true rfl, Nat.le_of_ble_eq_true rfl⟩) hK hw hA 0 rfl rfl rfl rfl hl.1 rfl (Nat.le_of_ble_eq_true rfl) dX5_vouch_74 ⟨Nat.zero_le _, Nat.zero_le _⟩ (fun S_11 H locs hp_11 hw => ?_)
              have eS_11 := hp_11
              refine lv_iconst (v := nI 2) hx hb dX5_vouch_77 (by decide) ?_
              exact ct_iret (S := S_11) (v := nI 2) hx hb hr hlocks hK hw (⟨by simp only [vcF, vcG, vcR, nI_20, c_2, ec_p9, c_4, ec_e9, c_5, c_6, c_8, c_10, decide_true, decide_false, Bool.not_true, Bool.not_false, Bool.true_and, Bool.and_true, Bool.false_and, Bool.and_false, Bool.or_true, Bool.true_or, Bool.or_false, Bool.false_or, Bool.false_eq_true, Bool.true_eq_false, if_true, if_false, ↓reduceIte], by rw [eS_11]; simp only [vcF, vcG, vcR, nI_20, c_2, ec_p9, c_4, ec_e9, c_5, c_6, c_8, c_10, decide_true, decide_false, Bool.not_true, Bool.not_false, Bool.true_and, Bool.and_true, Bool.false_and, Bool.and_false, Bool.or_true, Bool.true_or, Bool.or_false, Bool.false_or, Bool.false_eq_true, Bool.true_eq_false, if_true, if_false, ↓reduceIte]⟩) dX5_vouch_78
            · skip
              have c_10 : cr (vcT S p9 e9) e9 = false := nb_0 c_10
              refine lv_iconst (v := nI 1) hx hb dX5_vouch_70 (by decide) ?_
              exact ct_iret (S := vcT S p9 e9) (v := nI 1) hx hb hr hlocks hK hw (⟨by simp only [vcF, vcG, vcR, nI_20, c_2, ec_p9, c_4, ec_e9, c_5, c_6, c_8, c_10, decide_true, decide_false, Bool.not_true, Bool.not_false, Bool.true_and, Bool.and_true, Bool.false_and, Bool.and_false, Bool.or_true, Bool.true_or, Bool.or_false, Bool.false_or, Bool.false_eq_true, Bool.true_eq_false, if_true, if_false, ↓reduceIte], by simp only [vcF, vcG, vcR, nI_20, c_2, ec_p9, c_4, ec_e9, c_5, c_6, c_8, c_10, decide_true, decide_false, Bool.not_true, Bool.not_false, Bool.true_and, Bool.and_true, Bool.false_and, Bool.and_false, Bool.or_true, Bool.true_or, Bool.or_false, Bool.false_or, Bool.false_eq_true, Bool.true_eq_false, if_true, if_false, ↓reduceIte]⟩) dX5_vouch_71
          · skip
            have c_8 : tk S e9 p9 = false := nb_0 c_8
            rw [if_neg (by rw [c_8]; decide)] at hw
            refine lv_iconst (v := nI 0) hx hb dX5_vouch_57 (by decide) ?_
            exact ct_iret (S := S) (v := nI 0) hx hb hr hlocks hK hw (⟨by simp only [vcF, vcG, vcR, nI_20, c_2, ec_p9, c_4, ec_e9, c_5, c_6, c_8, decide_true, decide_false, Bool.not_true, Bool.not_false, Bool.true_and, Bool.and_true, Bool.false_and, Bool.and_false, Bool.or_true, Bool.true_or, Bool.or_false, Bool.false_or, Bool.false_eq_true, Bool.true_eq_false, if_true, if_false, ↓reduceIte], by simp only [vcF, vcG, vcR, nI_20, c_2, ec_p9, c_4, ec_e9, c_5, c_6, c_8, decide_true, decide_false, Bool.not_true, Bool.not_false, Bool.true_and, Bool.and_true, Bool.false_and, Bool.and_false, Bool.or_true, Bool.true_or, Bool.or_false, Bool.false_or, Bool.false_eq_true, Bool.true_eq_false, if_true, if_false, ↓reduceIte]⟩) dX5_vouch_58
      · skip
        refine lv_iconst (v := (-1)) hx hb dX5_vouch_30 (by decide) ?_
        exact ct_iret (S := S) (v := (-1)) hx hb hr hlocks hK hw (⟨by simp only [vcF, vcG, vcR, nI_20, c_2, ec_p9, c_4, ec_e9, c_5, decide_true, decide_false, Bool.not_true, Bool.not_false, Bool.true_and, Bool.and_true, Bool.false_and, Bool.and_false, Bool.or_true, Bool.true_or, Bool.or_false, Bool.false_or, Bool.false_eq_true, Bool.true_eq_false, if_true, if_false, ↓reduceIte], by simp only [vcF, vcG, vcR, nI_20, c_2, ec_p9, c_4, ec_e9, c_5, decide_true, decide_false, Bool.not_true, Bool.not_false, Bool.true_and, Bool.and_true, Bool.false_and, Bool.and_false, Bool.or_true, Bool.true_or, Bool.or_false, Bool.false_or, Bool.false_eq_true, Bool.true_eq_false, if_true, if_false, ↓reduceIte]⟩) dX5_vouch_31
end
section
theorem dX5_row_0 : decode cX5_row 0 = .ok (.aload_n 0, 1) := by decide +kernel
theorem dX5_row_1 : decode cX5_row 1 = .ok (.getfield 26, 3) := by decide +kernel
theorem dX5_row_4 : decode cX5_row 4 = .ok (.iload_n 1, 1) := by decide +kernel
theorem dX5_row_5 : decode cX5_row 5 = .ok (.invokevirtual 147, 3) := by decide +kernel
theorem dX5_row_8 : decode cX5_row 8 = .ok (.ifCond .ne 5, 3) := by decide +kernel
theorem dX5_row_11 : decode cX5_row 11 = .ok (.iconst (-1), 1) := by decide +kernel
theorem dX5_row_12 : decode cX5_row 12 = .ok (.ireturn, 1) := by decide +kernel
theorem dX5_row_13 : decode cX5_row 13 = .ok (.iload_n 2, 1) := by decide +kernel
theorem dX5_row_14 : decode cX5_row 14 = .ok (.tableswitch 98 0 5 #[38, 48, 58, 68, 78, 88], 38) := by decide +kernel
theorem dX5_row_52 : decode cX5_row 52 = .ok (.aload_n 0, 1) := by decide +kernel
theorem dX5_row_53 : decode cX5_row 53 = .ok (.getfield 26, 3) := by decide +kernel
theorem dX5_row_56 : decode cX5_row 56 = .ok (.getfield 155, 3) := by decide +kernel
theorem dX5_row_59 : decode cX5_row 59 = .ok (.iload_n 1, 1) := by decide +kernel
theorem dX5_row_60 : decode cX5_row 60 = .ok (.iaload, 1) := by decide +kernel
theorem dX5_row_61 : decode cX5_row 61 = .ok (.ireturn, 1) := by decide +kernel
theorem dX5_row_62 : decode cX5_row 62 = .ok (.aload_n 0, 1) := by decide +kernel
theorem dX5_row_63 : decode cX5_row 63 = .ok (.getfield 26, 3) := by decide +kernel
theorem dX5_row_66 : decode cX5_row 66 = .ok (.getfield 158, 3) := by decide +kernel
theorem dX5_row_69 : decode cX5_row 69 = .ok (.iload_n 1, 1) := by decide +kernel
theorem dX5_row_70 : decode cX5_row 70 = .ok (.iaload, 1) := by decide +kernel
theorem dX5_row_71 : decode cX5_row 71 = .ok (.ireturn, 1) := by decide +kernel
theorem dX5_row_72 : decode cX5_row 72 = .ok (.aload_n 0, 1) := by decide +kernel
theorem dX5_row_73 : decode cX5_row 73 = .ok (.getfield 26, 3) := by decide +kernel
theorem dX5_row_76 : decode cX5_row 76 = .ok (.getfield 216, 3) := by decide +kernel
theorem dX5_row_79 : decode cX5_row 79 = .ok (.iload_n 1, 1) := by decide +kernel
theorem dX5_row_80 : decode cX5_row 80 = .ok (.iaload, 1) := by decide +kernel
theorem dX5_row_81 : decode cX5_row 81 = .ok (.ireturn, 1) := by decide +kernel
theorem dX5_row_82 : decode cX5_row 82 = .ok (.aload_n 0, 1) := by decide +kernel
theorem dX5_row_83 : decode cX5_row 83 = .ok (.getfield 26, 3) := by decide +kernel
theorem dX5_row_86 : decode cX5_row 86 = .ok (.getfield 161, 3) := by decide +kernel
theorem dX5_row_89 : decode cX5_row 89 = .ok (.iload_n 1, 1) := by decide +kernel
theorem dX5_row_90 : decode cX5_row 90 = .ok (.iaload, 1) := by decide +kernel
theorem dX5_row_91 : decode cX5_row 91 = .ok (.ireturn, 1) := by decide +kernel
theorem dX5_row_92 : decode cX5_row 92 = .ok (.aload_n 0, 1) := by decide +kernel
theorem dX5_row_93 : decode cX5_row 93 = .ok (.getfield 26, 3) := by decide +kernel
theorem dX5_row_96 : decode cX5_row 96 = .ok (.getfield 148, 3) := by decide +kernel
theorem dX5_row_99 : decode cX5_row 99 = .ok (.iload_n 1, 1) := by decide +kernel
theorem dX5_row_100 : decode cX5_row 100 = .ok (.iaload, 1) := by decide +kernel
theorem dX5_row_101 : decode cX5_row 101 = .ok (.ireturn, 1) := by decide +kernel
theorem dX5_row_102 : decode cX5_row 102 = .ok (.aload_n 0, 1) := by decide +kernel
theorem dX5_row_103 : decode cX5_row 103 = .ok (.getfield 26, 3) := by decide +kernel
theorem dX5_row_106 : decode cX5_row 106 = .ok (.getfield 152, 3) := by decide +kernel
theorem dX5_row_109 : decode cX5_row 109 = .ok (.iload_n 1, 1) := by decide +kernel
theorem dX5_row_110 : decode cX5_row 110 = .ok (.iaload, 1) := by decide +kernel
theorem dX5_row_111 : decode cX5_row 111 = .ok (.ireturn, 1) := by decide +kernel
theorem dX5_row_112 : decode cX5_row 112 = .ok (.iconst (-1), 1) := by decide +kernel
theorem dX5_row_113 : decode cX5_row 113 = .ok (.ireturn, 1) := by decide +kernel

theorem dJ6_bitCount_0 : decode cJ6_bitCount 0 = .ok (.iload_n 0, 1) := by decide +kernel
theorem dJ6_bitCount_1 : decode cJ6_bitCount 1 = .ok (.iload_n 0, 1) := by decide +kernel
theorem dJ6_bitCount_2 : decode cJ6_bitCount 2 = .ok (.iconst 1, 1) := by decide +kernel
theorem dJ6_bitCount_3 : decode cJ6_bitCount 3 = .ok (.iushr, 1) := by decide +kernel
theorem dJ6_bitCount_4 : decode cJ6_bitCount 4 = .ok (.ldc_w 265, 3) := by decide +kernel
theorem dJ6_bitCount_7 : decode cJ6_bitCount 7 = .ok (.iand, 1) := by decide +kernel
theorem dJ6_bitCount_8 : decode cJ6_bitCount 8 = .ok (.isub, 1) := by decide +kernel
theorem dJ6_bitCount_9 : decode cJ6_bitCount 9 = .ok (.istore_n 0, 1) := by decide +kernel
theorem dJ6_bitCount_10 : decode cJ6_bitCount 10 = .ok (.iload_n 0, 1) := by decide +kernel
theorem dJ6_bitCount_11 : decode cJ6_bitCount 11 = .ok (.ldc_w 266, 3) := by decide +kernel
theorem dJ6_bitCount_14 : decode cJ6_bitCount 14 = .ok (.iand, 1) := by decide +kernel
theorem dJ6_bitCount_15 : decode cJ6_bitCount 15 = .ok (.iload_n 0, 1) := by decide +kernel
theorem dJ6_bitCount_16 : decode cJ6_bitCount 16 = .ok (.iconst 2, 1) := by decide +kernel
theorem dJ6_bitCount_17 : decode cJ6_bitCount 17 = .ok (.iushr, 1) := by decide +kernel
theorem dJ6_bitCount_18 : decode cJ6_bitCount 18 = .ok (.ldc_w 266, 3) := by decide +kernel
theorem dJ6_bitCount_21 : decode cJ6_bitCount 21 = .ok (.iand, 1) := by decide +kernel
theorem dJ6_bitCount_22 : decode cJ6_bitCount 22 = .ok (.iadd, 1) := by decide +kernel
theorem dJ6_bitCount_23 : decode cJ6_bitCount 23 = .ok (.istore_n 0, 1) := by decide +kernel
theorem dJ6_bitCount_24 : decode cJ6_bitCount 24 = .ok (.iload_n 0, 1) := by decide +kernel
theorem dJ6_bitCount_25 : decode cJ6_bitCount 25 = .ok (.iload_n 0, 1) := by decide +kernel
theorem dJ6_bitCount_26 : decode cJ6_bitCount 26 = .ok (.iconst 4, 1) := by decide +kernel
theorem dJ6_bitCount_27 : decode cJ6_bitCount 27 = .ok (.iushr, 1) := by decide +kernel
theorem dJ6_bitCount_28 : decode cJ6_bitCount 28 = .ok (.iadd, 1) := by decide +kernel
theorem dJ6_bitCount_29 : decode cJ6_bitCount 29 = .ok (.ldc_w 267, 3) := by decide +kernel
theorem dJ6_bitCount_32 : decode cJ6_bitCount 32 = .ok (.iand, 1) := by decide +kernel
theorem dJ6_bitCount_33 : decode cJ6_bitCount 33 = .ok (.istore_n 0, 1) := by decide +kernel
theorem dJ6_bitCount_34 : decode cJ6_bitCount 34 = .ok (.iload_n 0, 1) := by decide +kernel
theorem dJ6_bitCount_35 : decode cJ6_bitCount 35 = .ok (.iload_n 0, 1) := by decide +kernel
theorem dJ6_bitCount_36 : decode cJ6_bitCount 36 = .ok (.bipush 8, 2) := by decide +kernel
theorem dJ6_bitCount_38 : decode cJ6_bitCount 38 = .ok (.iushr, 1) := by decide +kernel
theorem dJ6_bitCount_39 : decode cJ6_bitCount 39 = .ok (.iadd, 1) := by decide +kernel
theorem dJ6_bitCount_40 : decode cJ6_bitCount 40 = .ok (.istore_n 0, 1) := by decide +kernel
theorem dJ6_bitCount_41 : decode cJ6_bitCount 41 = .ok (.iload_n 0, 1) := by decide +kernel
theorem dJ6_bitCount_42 : decode cJ6_bitCount 42 = .ok (.iload_n 0, 1) := by decide +kernel
theorem dJ6_bitCount_43 : decode cJ6_bitCount 43 = .ok (.bipush 16, 2) := by decide +kernel
theorem dJ6_bitCount_45 : decode cJ6_bitCount 45 = .ok (.iushr, 1) := by decide +kernel
theorem dJ6_bitCount_46 : decode cJ6_bitCount 46 = .ok (.iadd, 1) := by decide +kernel
theorem dJ6_bitCount_47 : decode cJ6_bitCount 47 = .ok (.istore_n 0, 1) := by decide +kernel
theorem dJ6_bitCount_48 : decode cJ6_bitCount 48 = .ok (.iload_n 0, 1) := by decide +kernel
theorem dJ6_bitCount_49 : decode cJ6_bitCount 49 = .ok (.bipush 63, 2) := by decide +kernel
theorem dJ6_bitCount_51 : decode cJ6_bitCount 51 = .ok (.iand, 1) := by decide +kernel
theorem dJ6_bitCount_52 : decode cJ6_bitCount 52 = .ok (.ireturn, 1) := by decide +kernel

theorem dX5_person_0 : decode cX5_person 0 = .ok (.iload_n 1, 1) := by decide +kernel
theorem dX5_person_1 : decode cX5_person 1 = .ok (.invokestatic 183, 3) := by decide +kernel
theorem dX5_person_4 : decode cX5_person 4 = .ok (.ifCond .ne 5, 3) := by decide +kernel
theorem dX5_person_7 : decode cX5_person 7 = .ok (.iconst (-1), 1) := by decide +kernel
theorem dX5_person_8 : decode cX5_person 8 = .ok (.ireturn, 1) := by decide +kernel
theorem dX5_person_9 : decode cX5_person 9 = .ok (.iload_n 2, 1) := by decide +kernel
theorem dX5_person_10 : decode cX5_person 10 = .ok (.tableswitch 81 0 3 #[30, 40, 58, 68], 30) := by decide +kernel
theorem dX5_person_40 : decode cX5_person 40 = .ok (.aload_n 0, 1) := by decide +kernel
theorem dX5_person_41 : decode cX5_person 41 = .ok (.getfield 10, 3) := by decide +kernel
theorem dX5_person_44 : decode cX5_person 44 = .ok (.getfield 172, 3) := by decide +kernel
theorem dX5_person_47 : decode cX5_person 47 = .ok (.iload_n 1, 1) := by decide +kernel
theorem dX5_person_48 : decode cX5_person 48 = .ok (.iaload, 1) := by decide +kernel
theorem dX5_person_49 : decode cX5_person 49 = .ok (.ireturn, 1) := by decide +kernel
theorem dX5_person_50 : decode cX5_person 50 = .ok (.aload_n 0, 1) := by decide +kernel
theorem dX5_person_51 : decode cX5_person 51 = .ok (.getfield 10, 3) := by decide +kernel
theorem dX5_person_54 : decode cX5_person 54 = .ok (.getfield 101, 3) := by decide +kernel
theorem dX5_person_57 : decode cX5_person 57 = .ok (.iload_n 1, 1) := by decide +kernel
theorem dX5_person_58 : decode cX5_person 58 = .ok (.baload, 1) := by decide +kernel
theorem dX5_person_59 : decode cX5_person 59 = .ok (.ifCond .eq 7, 3) := by decide +kernel
theorem dX5_person_62 : decode cX5_person 62 = .ok (.iconst 1, 1) := by decide +kernel
theorem dX5_person_63 : decode cX5_person 63 = .ok (.goto 4, 3) := by decide +kernel
theorem dX5_person_66 : decode cX5_person 66 = .ok (.iconst 0, 1) := by decide +kernel
theorem dX5_person_67 : decode cX5_person 67 = .ok (.ireturn, 1) := by decide +kernel
theorem dX5_person_68 : decode cX5_person 68 = .ok (.aload_n 0, 1) := by decide +kernel
theorem dX5_person_69 : decode cX5_person 69 = .ok (.getfield 33, 3) := by decide +kernel
theorem dX5_person_72 : decode cX5_person 72 = .ok (.getfield 224, 3) := by decide +kernel
theorem dX5_person_75 : decode cX5_person 75 = .ok (.iload_n 1, 1) := by decide +kernel
theorem dX5_person_76 : decode cX5_person 76 = .ok (.iaload, 1) := by decide +kernel
theorem dX5_person_77 : decode cX5_person 77 = .ok (.ireturn, 1) := by decide +kernel
theorem dX5_person_78 : decode cX5_person 78 = .ok (.aload_n 0, 1) := by decide +kernel
theorem dX5_person_79 : decode cX5_person 79 = .ok (.getfield 10, 3) := by decide +kernel
theorem dX5_person_82 : decode cX5_person 82 = .ok (.getfield 232, 3) := by decide +kernel
theorem dX5_person_85 : decode cX5_person 85 = .ok (.iload_n 1, 1) := by decide +kernel
theorem dX5_person_86 : decode cX5_person 86 = .ok (.iaload, 1) := by decide +kernel
theorem dX5_person_87 : decode cX5_person 87 = .ok (.invokestatic 235, 3) := by decide +kernel
theorem dX5_person_90 : decode cX5_person 90 = .ok (.ireturn, 1) := by decide +kernel
theorem dX5_person_91 : decode cX5_person 91 = .ok (.iconst (-1), 1) := by decide +kernel
theorem dX5_person_92 : decode cX5_person 92 = .ok (.ireturn, 1) := by decide +kernel

theorem dX5_total_0 : decode cX5_total 0 = .ok (.iload_n 1, 1) := by decide +kernel
theorem dX5_total_1 : decode cX5_total 1 = .ok (.tableswitch 57 0 3 #[31, 39, 47, 52], 31) := by decide +kernel
theorem dX5_total_32 : decode cX5_total 32 = .ok (.aload_n 0, 1) := by decide +kernel
theorem dX5_total_33 : decode cX5_total 33 = .ok (.getfield 19, 3) := by decide +kernel
theorem dX5_total_36 : decode cX5_total 36 = .ok (.getfield 77, 3) := by decide +kernel
theorem dX5_total_39 : decode cX5_total 39 = .ok (.ireturn, 1) := by decide +kernel
theorem dX5_total_40 : decode cX5_total 40 = .ok (.aload_n 0, 1) := by decide +kernel
theorem dX5_total_41 : decode cX5_total 41 = .ok (.getfield 26, 3) := by decide +kernel
theorem dX5_total_44 : decode cX5_total 44 = .ok (.getfield 241, 3) := by decide +kernel
theorem dX5_total_47 : decode cX5_total 47 = .ok (.ireturn, 1) := by decide +kernel
theorem dX5_total_48 : decode cX5_total 48 = .ok (.aload_n 0, 1) := by decide +kernel
theorem dX5_total_49 : decode cX5_total 49 = .ok (.getfield 116, 3) := by decide +kernel
theorem dX5_total_52 : decode cX5_total 52 = .ok (.ireturn, 1) := by decide +kernel
theorem dX5_total_53 : decode cX5_total 53 = .ok (.aload_n 0, 1) := by decide +kernel
theorem dX5_total_54 : decode cX5_total 54 = .ok (.getfield 122, 3) := by decide +kernel
theorem dX5_total_57 : decode cX5_total 57 = .ok (.ireturn, 1) := by decide +kernel
theorem dX5_total_58 : decode cX5_total 58 = .ok (.iconst (-1), 1) := by decide +kernel
theorem dX5_total_59 : decode cX5_total 59 = .ok (.ireturn, 1) := by decide +kernel

set_option maxHeartbeats 4000000 in
set_option maxRecDepth 100000 in
theorem kX5_row (l : Launch) (dC : Nat → ClassId) (dI : Nat → Nat → Nat) (ca : Nat → ClassId) (ad : Nat → Nat) (S : sSt) (rr : Int32) (wh : Int32) (nb : Nat) (nr : Nat) (hb6 : nb ≤ 6) (hr2 : nr ≤ 200) (hri : RI nb nr S) : ct_I l yX5_row (Cond.code yX5_row cX5_row 3 (some .int) :: wa_T) ({ frames := 1, cells := 0, slots := 0, locals := 21 } : Room) (dC, dI) vwCl (tyl ca) (wc ca ad) S [.ref (ad 0), .int rr, .int wh] (fun r S2 => r = rwF S rr wh ∧ S2 = S) := by
  refine ct_ofI (by decide) (Nat.le_of_ble_eq_true rfl) ?_
  intro p e s m below meth c A ls hx hb hr hml hts hown hlocks hK hA hw hl
  have hl : lv_has ls 3 [(0, .ref (ad 0)), (1, .int rr), (2, .int wh)] := hl
  refine lv_aload_n hx hb dX5_row_0 rfl (lv_at hl 0 rfl) ?_
  refine wo_get hx hb hts inX5 hown hK hw 0 rfl rfl 2 (by decide) (hts _ wd_168) (fun _ h9 => h9) rfl dX5_row_1 ?_
  refine lv_iload_n hx hb dX5_row_4 rfl (lv_at hl 1 rfl) ?_
  refine wo_vI (As := [.int rr]) (rest := []) (kX3_has l dC dI ca ad S rr) ⟨hx, hb, hml, hown, hts⟩ (cwV 1 hts (wa_gV wd_269 wd_270 wd_271 wd_5 wd_272) rfl rfl rfl (by decide +kernel) ⟨Nat.le_of_ble_eq_true rfl, Nat.le_of_ble_eq_true rfl⟩) hK hw hA 3 rfl rfl rfl rfl hl.1 rfl (Nat.le_of_ble_eq_true rfl) dX5_row_5 ⟨Nat.zero_le _, Nat.zero_le _⟩ (fun r_1 S_1 H locs hp_1 hw => ?_)
  have e9 := hp_1.1.symm
  subst e9
  have e9 := hp_1.2.symm
  subst e9
  refine lv_if_ne (tgt := 13) hx hb dX5_row_8 (by decide) (fun c_2 => ?_) (fun c_2 => ?_)
  · skip
    have c_2 : hrw S rr = true := nb_1 c_2
    obtain ⟨r9, hr9, hr9n, rfl⟩ := hrw_n hri.2.2 hr2 c_2
    have ec_r9 := nI_clamp (n := r9) (by omega)
    refine lv_iload_n hx hb dX5_row_13 rfl (lv_at hl 2 rfl) ?_
    by_cases c_3 : wh = nI 0
    · skip
      subst c_3
      refine lv_tableIn (tgt := 52) hx hb dX5_row_14 (by decide) (by decide) rfl (by decide) ?_
      refine lv_aload_n hx hb dX5_row_52 rfl (lv_at hl 0 rfl) ?_
      refine wo_get hx hb hts inX5 hown hK hw 0 rfl rfl 2 (by decide) (hts _ wd_168) (fun _ h9 => h9) rfl dX5_row_53 ?_
      refine wo_get hx hb hts inX3 hown hK hw 3 rfl rfl 1 (by decide) (hts _ wd_92) (fun _ h9 => h9) rfl dX5_row_56 ?_
      refine lv_iload_n hx hb dX5_row_59 rfl (lv_at hl 1 rfl) ?_
      refine wo_iald hx hb hK hw 26 0 rfl rfl r9 rfl (by first | assumption | omega) (by decide) dX5_row_60 ?_
      exact ct_iret (S := S) (v := S.1 26 r9) hx hb hr hlocks hK hw (⟨by rw [rwF, if_pos c_2, ec_r9]; rfl, rfl⟩) dX5_row_61
    by_cases c_4 : wh = nI 1
    · skip
      subst c_4
      refine lv_tableIn (tgt := 62) hx hb dX5_row_14 (by decide) (by decide) rfl (by decide) ?_
      refine lv_aload_n hx hb dX5_row_62 rfl (lv_at hl 0 rfl) ?_
      refine wo_get hx hb hts inX5 hown hK hw 0 rfl rfl 2 (by decide) (hts _ wd_168) (fun _ h9 => h9) rfl dX5_row_63 ?_
      refine wo_get hx hb hts inX3 hown hK hw 3 rfl rfl 2 (by decide) (hts _ wd_94) (fun _ h9 => h9) rfl dX5_row_66 ?_
      refine lv_iload_n hx hb dX5_row_69 rfl (lv_at hl 1 rfl) ?_
      refine wo_iald hx hb hK hw 27 0 rfl rfl r9 rfl (by first | assumption | omega) (by decide) dX5_row_70 ?_
      exact ct_iret (S := S) (v := S.1 27 r9) hx hb hr hlocks hK hw (⟨by rw [rwF, if_pos c_2, ec_r9]; rfl, rfl⟩) dX5_row_71
    by_cases c_5 : wh = nI 2
    · skip
      subst c_5
      refine lv_tableIn (tgt := 72) hx hb dX5_row_14 (by decide) (by decide) rfl (by decide) ?_
      refine lv_aload_n hx hb dX5_row_72 rfl (lv_at hl 0 rfl) ?_
      refine wo_get hx hb hts inX5 hown hK hw 0 rfl rfl 2 (by decide) (hts _ wd_168) (fun _ h9 => h9) rfl dX5_row_73 ?_
      refine wo_get hx hb hts inX3 hown hK hw 3 rfl rfl 3 (by decide) (hts _ wd_96) (fun _ h9 => h9) rfl dX5_row_76 ?_
      refine lv_iload_n hx hb dX5_row_79 rfl (lv_at hl 1 rfl) ?_
      refine wo_iald hx hb hK hw 28 0 rfl rfl r9 rfl (by first | assumption | omega) (by decide) dX5_row_80 ?_
      exact ct_iret (S := S) (v := S.1 28 r9) hx hb hr hlocks hK hw (⟨by rw [rwF, if_pos c_2, ec_r9]; rfl, rfl⟩) dX5_row_81
    by_cases c_6 : wh = nI 3
    · skip
      subst c_6
      refine lv_tableIn (tgt := 82) hx hb dX5_row_14 (by decide) (by decide) rfl (by decide) ?_
      refine lv_aload_n hx hb dX5_row_82 rfl (lv_at hl 0 rfl) ?_
      refine wo_get hx hb hts inX5 hown hK hw 0 rfl rfl 2 (by decide) (hts _ wd_168) (fun _ h9 => h9) rfl dX5_row_83 ?_
      refine wo_get hx hb hts inX3 hown hK hw 3 rfl rfl 4 (by decide) (hts _ wd_98) (fun _ h9 => h9) rfl dX5_row_86 ?_
      refine lv_iload_n hx hb dX5_row_89 rfl (lv_at hl 1 rfl) ?_
      refine wo_iald hx hb hK hw 29 0 rfl rfl r9 rfl (by first | assumption | omega) (by decide) dX5_row_90 ?_
      exact ct_iret (S := S) (v := S.1 29 r9) hx hb hr hlocks hK hw (⟨by rw [rwF, if_pos c_2, ec_r9]; rfl, rfl⟩) dX5_row_91
    by_cases c_7 : wh = nI 4
    · skip
      subst c_7
      refine lv_tableIn (tgt := 92) hx hb dX5_row_14 (by decide) (by decide) rfl (by decide) ?_
      refine lv_aload_n hx hb dX5_row_92 rfl (lv_at hl 0 rfl) ?_
      refine wo_get hx hb hts inX5 hown hK hw 0 rfl rfl 2 (by decide) (hts _ wd_168) (fun _ h9 => h9) rfl dX5_row_93 ?_
      refine wo_get hx hb hts inX3 hown hK hw 3 rfl rfl 5 (by decide) (hts _ wd_100) (fun _ h9 => h9) rfl dX5_row_96 ?_
      refine lv_iload_n hx hb dX5_row_99 rfl (lv_at hl 1 rfl) ?_
      refine wo_iald hx hb hK hw 30 0 rfl rfl r9 rfl (by first | assumption | omega) (by decide) dX5_row_100 ?_
      exact ct_iret (S := S) (v := S.1 30 r9) hx hb hr hlocks hK hw (⟨by rw [rwF, if_pos c_2, ec_r9]; rfl, rfl⟩) dX5_row_101
    by_cases c_8 : wh = nI 5
    · skip
      subst c_8
      refine lv_tableIn (tgt := 102) hx hb dX5_row_14 (by decide) (by decide) rfl (by decide) ?_
      refine lv_aload_n hx hb dX5_row_102 rfl (lv_at hl 0 rfl) ?_
      refine wo_get hx hb hts inX5 hown hK hw 0 rfl rfl 2 (by decide) (hts _ wd_168) (fun _ h9 => h9) rfl dX5_row_103 ?_
      refine wo_get hx hb hts inX3 hown hK hw 3 rfl rfl 6 (by decide) (hts _ wd_102) (fun _ h9 => h9) rfl dX5_row_106 ?_
      refine lv_iload_n hx hb dX5_row_109 rfl (lv_at hl 1 rfl) ?_
      refine wo_iald hx hb hK hw 31 0 rfl rfl r9 rfl (by first | assumption | omega) (by decide) dX5_row_110 ?_
      exact ct_iret (S := S) (v := S.1 31 r9) hx hb hr hlocks hK hw (⟨by rw [rwF, if_pos c_2, ec_r9]; rfl, rfl⟩) dX5_row_111
    refine lv_tableOut (tgt := 112) hx hb dX5_row_14 (by have q0 := lv_neT c_3 (a := 0) (by decide); have q1 := lv_neT c_4 (a := 1) (by decide); have q2 := lv_neT c_5 (a := 2) (by decide); have q3 := lv_neT c_6 (a := 3) (by decide); have q4 := lv_neT c_7 (a := 4) (by decide); have q5 := lv_neT c_8 (a := 5) (by decide); omega) (by decide) ?_
    refine lv_iconst (v := (-1)) hx hb dX5_row_112 (by decide) ?_
    exact ct_iret (S := S) (v := (-1)) hx hb hr hlocks hK hw (⟨by simp only [rwF, rwV, c_2, ec_r9, c_3, c_4, c_5, c_6, c_7, c_8, decide_true, decide_false, Bool.not_true, Bool.not_false, Bool.true_and, Bool.and_true, Bool.false_and, Bool.and_false, Bool.or_true, Bool.true_or, Bool.or_false, Bool.false_or, Bool.false_eq_true, Bool.true_eq_false, if_true, if_false, ↓reduceIte], rfl⟩) dX5_row_113
  · skip
    have c_2 : hrw S rr = false := nb_0 c_2
    refine lv_iconst (v := (-1)) hx hb dX5_row_11 (by decide) ?_
    exact ct_iret (S := S) (v := (-1)) hx hb hr hlocks hK hw (⟨by simp only [rwF, rwV, c_2, decide_true, decide_false, Bool.not_true, Bool.not_false, Bool.true_and, Bool.and_true, Bool.false_and, Bool.and_false, Bool.or_true, Bool.true_or, Bool.or_false, Bool.false_or, Bool.false_eq_true, Bool.true_eq_false, if_true, if_false, ↓reduceIte], rfl⟩) dX5_row_12

set_option maxHeartbeats 4000000 in
set_option maxRecDepth 100000 in
theorem kJ6_bitCount (l : Launch) (dC : Nat → ClassId) (dI : Nat → Nat → Nat) (ca : Nat → ClassId) (ad : Nat → Nat) (S : sSt) (xx : Int32) : ct_I l yJ6_bitCount (Cond.code yJ6_bitCount cJ6_bitCount 1 (some .int) :: wa_T) ({ frames := 0, cells := 0, slots := 0, locals := 0 } : Room) (dC, dI) vwCl (tyl ca) (wc ca ad) S [.int xx] (fun r S2 => r = bcF xx ∧ S2 = S) := by
  refine ct_ofI (by decide) (Nat.le_of_ble_eq_true rfl) ?_
  intro p e s m below meth c A ls hx hb hr hml hts hown hlocks hK hA hw hl
  have hl : lv_has ls 1 [(0, .int xx)] := hl
  refine lv_iload_n hx hb dJ6_bitCount_0 rfl (lv_at hl 0 rfl) ?_
  refine lv_iload_n hx hb dJ6_bitCount_1 rfl (lv_at hl 0 rfl) ?_
  refine lv_iconst (v := nI 1) hx hb dJ6_bitCount_2 (by decide) ?_
  refine lv_iushr hx hb dJ6_bitCount_3 rfl ?_
  refine lv_ldcw hx hb hown (hts _ wd_360) dJ6_bitCount_4 ?_
  refine lv_iand hx hb dJ6_bitCount_7 ?_
  refine lv_isub hx hb dJ6_bitCount_8 ?_
  refine tp_i (y := bc1 xx) rfl ?_
  refine lv_istore_n (lv' := [(0, .int (bc1 xx))]) hx hb dJ6_bitCount_9 rfl hl (by decide) rfl (fun ls hl => ?_)
  refine lv_iload_n hx hb dJ6_bitCount_10 rfl (lv_at hl 0 rfl) ?_
  refine lv_ldcw hx hb hown (hts _ wd_361) dJ6_bitCount_11 ?_
  refine lv_iand hx hb dJ6_bitCount_14 ?_
  refine lv_iload_n hx hb dJ6_bitCount_15 rfl (lv_at hl 0 rfl) ?_
  refine lv_iconst (v := nI 2) hx hb dJ6_bitCount_16 (by decide) ?_
  refine lv_iushr hx hb dJ6_bitCount_17 rfl ?_
  refine lv_ldcw hx hb hown (hts _ wd_361) dJ6_bitCount_18 ?_
  refine lv_iand hx hb dJ6_bitCount_21 ?_
  refine lv_iadd hx hb dJ6_bitCount_22 ?_
  refine tp_i (y := bc2 (bc1 xx)) rfl ?_
  refine lv_istore_n (lv' := [(0, .int (bc2 (bc1 xx)))]) hx hb dJ6_bitCount_23 rfl hl (by decide) rfl (fun ls hl => ?_)
  refine lv_iload_n hx hb dJ6_bitCount_24 rfl (lv_at hl 0 rfl) ?_
  refine lv_iload_n hx hb dJ6_bitCount_25 rfl (lv_at hl 0 rfl) ?_
  refine lv_iconst (v := nI 4) hx hb dJ6_bitCount_26 (by decide) ?_
  refine lv_iushr hx hb dJ6_bitCount_27 rfl ?_
  refine lv_iadd hx hb dJ6_bitCount_28 ?_
  refine lv_ldcw hx hb hown (hts _ wd_362) dJ6_bitCount_29 ?_
  refine lv_iand hx hb dJ6_bitCount_32 ?_
  refine tp_i (y := bc3 (bc2 (bc1 xx))) rfl ?_
  refine lv_istore_n (lv' := [(0, .int (bc3 (bc2 (bc1 xx))))]) hx hb dJ6_bitCount_33 rfl hl (by decide) rfl (fun ls hl => ?_)
  refine lv_iload_n hx hb dJ6_bitCount_34 rfl (lv_at hl 0 rfl) ?_
  refine lv_iload_n hx hb dJ6_bitCount_35 rfl (lv_at hl 0 rfl) ?_
  refine lv_bipush (v := nI 8) hx hb dJ6_bitCount_36 (by decide) ?_
  refine lv_iushr hx hb dJ6_bitCount_38 rfl ?_
  refine lv_iadd hx hb dJ6_bitCount_39 ?_
  refine tp_i (y := bc4 (bc3 (bc2 (bc1 xx)))) rfl ?_
  refine lv_istore_n (lv' := [(0, .int (bc4 (bc3 (bc2 (bc1 xx)))))]) hx hb dJ6_bitCount_40 rfl hl (by decide) rfl (fun ls hl => ?_)
  refine lv_iload_n hx hb dJ6_bitCount_41 rfl (lv_at hl 0 rfl) ?_
  refine lv_iload_n hx hb dJ6_bitCount_42 rfl (lv_at hl 0 rfl) ?_
  refine lv_bipush (v := nI 16) hx hb dJ6_bitCount_43 (by decide) ?_
  refine lv_iushr hx hb dJ6_bitCount_45 rfl ?_
  refine lv_iadd hx hb dJ6_bitCount_46 ?_
  refine tp_i (y := bc5 (bc4 (bc3 (bc2 (bc1 xx))))) rfl ?_
  refine lv_istore_n (lv' := [(0, .int (bc5 (bc4 (bc3 (bc2 (bc1 xx))))))]) hx hb dJ6_bitCount_47 rfl hl (by decide) rfl (fun ls hl => ?_)
  refine lv_iload_n hx hb dJ6_bitCount_48 rfl (lv_at hl 0 rfl) ?_
  refine lv_bipush (v := nI 63) hx hb dJ6_bitCount_49 (by decide) ?_
  refine lv_iand hx hb dJ6_bitCount_51 ?_
  exact ct_iret (S := S) (v := (bc5 (bc4 (bc3 (bc2 (bc1 xx))))) &&& (nI 63)) hx hb hr hlocks hK hw (⟨rfl, rfl⟩) dJ6_bitCount_52

set_option maxHeartbeats 4000000 in
set_option maxRecDepth 100000 in
theorem kX5_person (l : Launch) (dC : Nat → ClassId) (dI : Nat → Nat → Nat) (ca : Nat → ClassId) (ad : Nat → Nat) (S : sSt) (pp : Int32) (wh : Int32) : ct_I l yX5_person (Cond.code yX5_person cX5_person 3 (some .int) :: wa_T) ({ frames := 1, cells := 0, slots := 0, locals := 20 } : Room) (dC, dI) vwCl (tyl ca) (wc ca ad) S [.ref (ad 0), .int pp, .int wh] (fun r S2 => r = psF S pp wh ∧ S2 = S) := by
  refine ct_ofI (by decide) (Nat.le_of_ble_eq_true rfl) ?_
  intro p e s m below meth c A ls hx hb hr hml hts hown hlocks hK hA hw hl
  have hl : lv_has ls 3 [(0, .ref (ad 0)), (1, .int pp), (2, .int wh)] := hl
  refine lv_iload_n hx hb dX5_person_0 rfl (lv_at hl 1 rfl) ?_
  refine wo_sI (As := [.int pp]) (rest := []) (kX1_has l dC dI ca ad S pp) ⟨hx, hb, hml, hown, hts⟩ (va_cwS 1 hts (wa_gS wd_344 wd_197 wd_2 wd_198) rfl rfl rfl (by decide +kernel) ⟨Nat.le_of_ble_eq_true rfl, Nat.le_of_ble_eq_true rfl⟩) hK hw hA rfl hl.1 rfl (Nat.le_of_ble_eq_true rfl) dX5_person_1 ⟨Nat.zero_le _, Nat.zero_le _⟩ (fun r_1 S_1 H locs hp_1 hw => ?_)
  have e9 := hp_1.1.symm
  subst e9
  have e9 := hp_1.2.symm
  subst e9
  refine lv_if_ne (tgt := 9) hx hb dX5_person_4 (by decide) (fun c_2 => ?_) (fun c_2 => ?_)
  · skip
    have c_2 : h6 pp = true := nb_1 c_2
    obtain ⟨p9, hp9, rfl⟩ := h6_n c_2
    have ec_p9 := nI_clamp (n := p9) (by omega)
    refine lv_iload_n hx hb dX5_person_9 rfl (lv_at hl 2 rfl) ?_
    by_cases c_3 : wh = nI 0
    · skip
      subst c_3
      refine lv_tableIn (tgt := 40) hx hb dX5_person_10 (by decide) (by decide) rfl (by decide) ?_
      refine lv_aload_n hx hb dX5_person_40 rfl (lv_at hl 0 rfl) ?_
      refine wo_get hx hb hts inX5 hown hK hw 0 rfl rfl 0 (by decide) (hts _ wd_166) (fun _ h9 => h9) rfl dX5_person_41 ?_
      refine wo_get hx hb hts inX1 hown hK hw 1 rfl rfl 2 (by decide) (hts _ wd_40) (fun _ h9 => h9) rfl dX5_person_44 ?_
      refine lv_iload_n hx hb dX5_person_47 rfl (lv_at hl 1 rfl) ?_
      refine wo_iald hx hb hK hw 8 0 rfl rfl p9 rfl (by first | assumption | omega) (by decide) dX5_person_48 ?_
      exact ct_iret (S := S) (v := S.1 8 p9) hx hb hr hlocks hK hw (⟨by rw [psF, if_pos c_2, ec_p9]; rfl, rfl⟩) dX5_person_49
    by_cases c_4 : wh = nI 1
    · skip
      subst c_4
      refine lv_tableIn (tgt := 50) hx hb dX5_person_10 (by decide) (by decide) rfl (by decide) ?_
      refine lv_aload_n hx hb dX5_person_50 rfl (lv_at hl 0 rfl) ?_
      refine wo_get hx hb hts inX5 hown hK hw 0 rfl rfl 0 (by decide) (hts _ wd_166) (fun _ h9 => h9) rfl dX5_person_51 ?_
      refine wo_get hx hb hts inX1 hown hK hw 1 rfl rfl 1 (by decide) (hts _ wd_38) (fun _ h9 => h9) rfl dX5_person_54 ?_
      refine lv_iload_n hx hb dX5_person_57 rfl (lv_at hl 1 rfl) ?_
      refine wo_zald hx hb hK hw 7 2 rfl rfl p9 rfl (by first | assumption | omega) (by decide) dX5_person_58 ?_
      refine lv_if_eq (tgt := 66) hx hb dX5_person_59 (by decide) (fun c_5 => ?_) (fun c_5 => ?_)
      · skip
        refine lv_iconst (v := nI 0) hx hb dX5_person_66 (by decide) ?_
        exact ct_iret (S := S) (v := nI 0) hx hb hr hlocks hK hw (⟨by rw [psF, if_pos c_2, ec_p9]; show _ = (if S.1 7 p9 = 0 then nI 0 else nI 1); simp only [c_5, decide_true, decide_false, Bool.not_true, Bool.not_false, Bool.true_and, Bool.and_true, Bool.false_and, Bool.and_false, Bool.or_true, Bool.true_or, Bool.or_false, Bool.false_or, Bool.false_eq_true, Bool.true_eq_false, if_true, if_false, ↓reduceIte], rfl⟩) dX5_person_67
      · skip
        refine lv_iconst (v := nI 1) hx hb dX5_person_62 (by decide) ?_
        refine lv_goto (tgt := 67) hx hb dX5_person_63 (by decide) ?_
        exact ct_iret (S := S) (v := nI 1) hx hb hr hlocks hK hw (⟨by rw [psF, if_pos c_2, ec_p9]; show _ = (if S.1 7 p9 = 0 then nI 0 else nI 1); simp only [c_5, decide_true, decide_false, Bool.not_true, Bool.not_false, Bool.true_and, Bool.and_true, Bool.false_and, Bool.and_false, Bool.or_true, Bool.true_or, Bool.or_false, Bool.false_or, Bool.false_eq_true, Bool.true_eq_false, if_true, if_false, ↓reduceIte], rfl⟩) dX5_person_67
    by_cases c_6 : wh = nI 2
    · skip
      subst c_6
      refine lv_tableIn (tgt := 68) hx hb dX5_person_10 (by decide) (by decide) rfl (by decide) ?_
      refine lv_aload_n hx hb dX5_person_68 rfl (lv_at hl 0 rfl) ?_
      refine wo_get hx hb hts inX5 hown hK hw 0 rfl rfl 3 (by decide) (hts _ wd_169) (fun _ h9 => h9) rfl dX5_person_69 ?_
      refine wo_get hx hb hts inX2 hown hK hw 4 rfl rfl 0 (by decide) (hts _ wd_136) (fun _ h9 => h9) rfl dX5_person_72 ?_
      refine lv_iload_n hx hb dX5_person_75 rfl (lv_at hl 1 rfl) ?_
      refine wo_iald hx hb hK hw 34 0 rfl rfl p9 rfl (by first | assumption | omega) (by decide) dX5_person_76 ?_
      exact ct_iret (S := S) (v := S.1 34 p9) hx hb hr hlocks hK hw (⟨by rw [psF, if_pos c_2, ec_p9]; rfl, rfl⟩) dX5_person_77
    by_cases c_7 : wh = nI 3
    · skip
      subst c_7
      refine lv_tableIn (tgt := 78) hx hb dX5_person_10 (by decide) (by decide) rfl (by decide) ?_
      refine lv_aload_n hx hb dX5_person_78 rfl (lv_at hl 0 rfl) ?_
      refine wo_get hx hb hts inX5 hown hK hw 0 rfl rfl 0 (by decide) (hts _ wd_166) (fun _ h9 => h9) rfl dX5_person_79 ?_
      refine wo_get hx hb hts inX1 hown hK hw 1 rfl rfl 3 (by decide) (hts _ wd_42) (fun _ h9 => h9) rfl dX5_person_82 ?_
      refine lv_iload_n hx hb dX5_person_85 rfl (lv_at hl 1 rfl) ?_
      refine wo_iald hx hb hK hw 9 0 rfl rfl p9 rfl (by first | assumption | omega) (by decide) dX5_person_86 ?_
      refine wo_sI (As := [.int (S.1 9 p9)]) (rest := []) (kJ6_bitCount l dC dI ca ad S (S.1 9 p9)) ⟨hx, hb, hml, hown, hts⟩ (va_cwS 1 hts (wa_gS wd_357 wd_358 wd_17 wd_359) rfl rfl rfl (by decide +kernel) ⟨Nat.le_of_ble_eq_true rfl, Nat.le_of_ble_eq_true rfl⟩) hK hw hA rfl hl.1 rfl (Nat.le_of_ble_eq_true rfl) dX5_person_87 ⟨Nat.zero_le _, Nat.zero_le _⟩ (fun r_8 S_8 H locs hp_8 hw => ?_)
      have e9 := hp_8.1.symm
      subst e9
      have e9 := hp_8.2.symm
      subst e9
      exact ct_iret (S := S) (v := bcF (S.1 9 p9)) hx hb hr hlocks hK hw (⟨by rw [psF, if_pos c_2, ec_p9]; rfl, rfl⟩) dX5_person_90
    refine lv_tableOut (tgt := 91) hx hb dX5_person_10 (by have q0 := lv_neT c_3 (a := 0) (by decide); have q1 := lv_neT c_4 (a := 1) (by decide); have q2 := lv_neT c_6 (a := 2) (by decide); have q3 := lv_neT c_7 (a := 3) (by decide); omega) (by decide) ?_
    refine lv_iconst (v := (-1)) hx hb dX5_person_91 (by decide) ?_
    exact ct_iret (S := S) (v := (-1)) hx hb hr hlocks hK hw (⟨by simp only [psF, psV, c_2, ec_p9, c_3, c_4, c_6, c_7, decide_true, decide_false, Bool.not_true, Bool.not_false, Bool.true_and, Bool.and_true, Bool.false_and, Bool.and_false, Bool.or_true, Bool.true_or, Bool.or_false, Bool.false_or, Bool.false_eq_true, Bool.true_eq_false, if_true, if_false, ↓reduceIte], rfl⟩) dX5_person_92
  · skip
    have c_2 : h6 pp = false := nb_0 c_2
    refine lv_iconst (v := (-1)) hx hb dX5_person_7 (by decide) ?_
    exact ct_iret (S := S) (v := (-1)) hx hb hr hlocks hK hw (⟨by simp only [psF, psV, c_2, decide_true, decide_false, Bool.not_true, Bool.not_false, Bool.true_and, Bool.and_true, Bool.false_and, Bool.and_false, Bool.or_true, Bool.true_or, Bool.or_false, Bool.false_or, Bool.false_eq_true, Bool.true_eq_false, if_true, if_false, ↓reduceIte], rfl⟩) dX5_person_8

set_option maxHeartbeats 4000000 in
set_option maxRecDepth 100000 in
theorem kX5_total (l : Launch) (dC : Nat → ClassId) (dI : Nat → Nat → Nat) (ca : Nat → ClassId) (ad : Nat → Nat) (S : sSt) (wh : Int32) : ct_I l yX5_total (Cond.code yX5_total cX5_total 2 (some .int) :: wa_T) ({ frames := 0, cells := 0, slots := 0, locals := 0 } : Room) (dC, dI) vwCl (tyl ca) (wc ca ad) S [.ref (ad 0), .int wh] (fun r S2 => r = ttF S wh ∧ S2 = S) := by
  refine ct_ofI (by decide) (Nat.le_of_ble_eq_true rfl) ?_
  intro p e s m below meth c A ls hx hb hr hml hts hown hlocks hK hA hw hl
  have hl : lv_has ls 2 [(0, .ref (ad 0)), (1, .int wh)] := hl
  refine lv_iload_n hx hb dX5_total_0 rfl (lv_at hl 1 rfl) ?_
  by_cases c_1 : wh = nI 0
  · skip
    subst c_1
    refine lv_tableIn (tgt := 32) hx hb dX5_total_1 (by decide) (by decide) rfl (by decide) ?_
    refine lv_aload_n hx hb dX5_total_32 rfl (lv_at hl 0 rfl) ?_
    refine wo_get hx hb hts inX5 hown hK hw 0 rfl rfl 1 (by decide) (hts _ wd_167) (fun _ h9 => h9) rfl dX5_total_33 ?_
    refine wo_get hx hb hts inX0 hown hK hw 2 rfl rfl 0 (by decide) (hts _ wd_64) (fun _ h9 => h9) rfl dX5_total_36 ?_
    exact ct_iret (S := S) (v := S.1 2 0) hx hb hr hlocks hK hw (⟨rfl, rfl⟩) dX5_total_39
  by_cases c_2 : wh = nI 1
  · skip
    subst c_2
    refine lv_tableIn (tgt := 40) hx hb dX5_total_1 (by decide) (by decide) rfl (by decide) ?_
    refine lv_aload_n hx hb dX5_total_40 rfl (lv_at hl 0 rfl) ?_
    refine wo_get hx hb hts inX5 hown hK hw 0 rfl rfl 2 (by decide) (hts _ wd_168) (fun _ h9 => h9) rfl dX5_total_41 ?_
    refine wo_get hx hb hts inX3 hown hK hw 3 rfl rfl 0 (by decide) (hts _ wd_90) (fun _ h9 => h9) rfl dX5_total_44 ?_
    exact ct_iret (S := S) (v := S.1 3 0) hx hb hr hlocks hK hw (⟨rfl, rfl⟩) dX5_total_47
  by_cases c_3 : wh = nI 2
  · skip
    subst c_3
    refine lv_tableIn (tgt := 48) hx hb dX5_total_1 (by decide) (by decide) rfl (by decide) ?_
    refine lv_aload_n hx hb dX5_total_48 rfl (lv_at hl 0 rfl) ?_
    refine wo_get hx hb hts inX5 hown hK hw 0 rfl rfl 5 (by decide) (hts _ wd_171) (fun _ h9 => h9) rfl dX5_total_49 ?_
    exact ct_iret (S := S) (v := S.1 0 5) hx hb hr hlocks hK hw (⟨rfl, rfl⟩) dX5_total_52
  by_cases c_4 : wh = nI 3
  · skip
    subst c_4
    refine lv_tableIn (tgt := 53) hx hb dX5_total_1 (by decide) (by decide) rfl (by decide) ?_
    refine lv_aload_n hx hb dX5_total_53 rfl (lv_at hl 0 rfl) ?_
    refine wo_get hx hb hts inX5 hown hK hw 0 rfl rfl 6 (by decide) (hts _ wd_172) (fun _ h9 => h9) rfl dX5_total_54 ?_
    exact ct_iret (S := S) (v := S.1 0 6) hx hb hr hlocks hK hw (⟨rfl, rfl⟩) dX5_total_57
  refine lv_tableOut (tgt := 58) hx hb dX5_total_1 (by have q0 := lv_neT c_1 (a := 0) (by decide); have q1 := lv_neT c_2 (a := 1) (by decide); have q2 := lv_neT c_3 (a := 2) (by decide); have q3 := lv_neT c_4 (a := 3) (by decide); omega) (by decide) ?_
  refine lv_iconst (v := (-1)) hx hb dX5_total_58 (by decide) ?_
  exact ct_iret (S := S) (v := (-1)) hx hb hr hlocks hK hw (⟨by simp only [ttF, c_1, c_2, c_3, c_4, decide_true, decide_false, Bool.not_true, Bool.not_false, Bool.true_and, Bool.and_true, Bool.false_and, Bool.and_false, Bool.or_true, Bool.true_or, Bool.or_false, Bool.false_or, Bool.false_eq_true, Bool.true_eq_false, if_true, if_false, ↓reduceIte], rfl⟩) dX5_total_59
end
section
/-! The reference's state, as two tables again. Places: 0 the object (fields by their number: 0 thrown, 1 bounds, 13 rows, 22 done, 23 refused); 1 floor, 2 value, 3 ceiling, 4 share, 5 weight, 6 how, 7 patient, 8 told, 9 waits, 10 waitBound, 11 waitFor, 12 rowBound, 13 rowSide, 14 from, 15 to, 16 much, 17 state, 18 times, 19 isBack, 20 part, 21 rest, 22 more. -/
def wth (x lo hi : Int64) : Bool := !decide (x < lo) && !decide (hi < x)
def mwl (M : sSt) (pp : Int32) : Bool := wth pp.toInt64 0 5 && decide (M.1 6 pp.toNatClampNeg = 0)
def mbd (M : sSt) (bb : Int32) : Bool := wth bb.toInt64 0 ((M.1 0 1).toInt64 - 1)
def mrw (M : sSt) (rr : Int32) : Bool := wth rr.toInt64 1 (M.1 0 13).toInt64
theorem wth_n {x : Int32} {lo hi : Int64} {a : Nat} {b : Int} (ha : lo.toInt = (a : Int)) (hb : hi.toInt = b) (h : wth x.toInt64 lo hi = true) : ∃ n : Nat, a ≤ n ∧ (n : Int) ≤ b ∧ n < 2 ^ 31 ∧ x = nI n := by
  unfold wth at h
  rw [Bool.and_eq_true, Bool.not_eq_true', Bool.not_eq_true', decide_eq_false_iff_not, decide_eq_false_iff_not, Int64.lt_iff_toInt_lt, Int64.lt_iff_toInt_lt, Int32.toInt_toInt64, ha, hb] at h
  have h0 : ¬ x < 0 := fun q => by
    rw [Int32.lt_iff_toInt_lt, Int32.toInt_zero] at q
    omega
  obtain ⟨j, hj, e⟩ := nI_of h0
  subst e
  rw [nI_toInt hj] at h
  exact ⟨j, by omega, by omega, hj, rfl⟩
theorem w5_n {x : Int32} (h : wth x.toInt64 0 5 = true) : ∃ n, n < 6 ∧ x = nI n := by
  obtain ⟨n, h1, h2, h3, e⟩ := wth_n (a := 0) (b := 5) (by decide) (by decide) h
  exact ⟨n, by omega, e⟩
theorem w1_n {x : Int32} (h : wth x.toInt64 0 1 = true) : ∃ n, n < 2 ∧ x = nI n := by
  obtain ⟨n, h1, h2, h3, e⟩ := wth_n (a := 0) (b := 1) (by decide) (by decide) h
  exact ⟨n, by omega, e⟩
theorem w8_n {x : Int32} (h : wth x.toInt64 0 8 = true) : ∃ n, n < 9 ∧ x = nI n := by
  obtain ⟨n, h1, h2, h3, e⟩ := wth_n (a := 0) (b := 8) (by decide) (by decide) h
  exact ⟨n, by omega, e⟩
theorem mwl_n {M : sSt} {pp : Int32} (h : mwl M pp = true) : ∃ n, n < 6 ∧ pp = nI n := by
  unfold mwl at h
  rw [Bool.and_eq_true] at h
  exact w5_n h.1
theorem nb1_toInt {nb : Nat} (h : nb ≤ 200) : ((nI nb).toInt64 - 1).toInt = (nb : Int) - 1 := by
  rw [nI_l (by omega)]
  cases nb with
  | zero => decide
  | succ k =>
    rw [show (1 : Int64) = lN 1 from rfl, lN_sub (by omega), lN_toInt (by omega)]
    omega
theorem mbd_n {M : sSt} {bb : Int32} {nb : Nat} (hc : M.1 0 1 = nI nb) (hb : nb ≤ 6) (h : mbd M bb = true) : ∃ n, n < nb ∧ bb = nI n := by
  unfold mbd at h
  rw [hc] at h
  obtain ⟨n, h1, h2, h3, e⟩ := wth_n (a := 0) (by decide) (nb1_toInt (by omega)) h
  exact ⟨n, by omega, e⟩
theorem mrw_n {M : sSt} {rr : Int32} {nr : Nat} (hc : M.1 0 13 = nI nr) (hb : nr ≤ 200) (h : mrw M rr = true) : ∃ n, 1 ≤ n ∧ n ≤ nr ∧ rr = nI n := by
  unfold mrw at h
  rw [hc] at h
  obtain ⟨n, h1, h2, h3, e⟩ := wth_n (a := 1) (b := (nr : Int)) (by decide) (by rw [nI_l (by omega), lN_toInt (by omega)]) h
  exact ⟨n, by omega, by omega, e⟩
-- split
def mown (M : sSt) (b0 : Bool) (p : Nat) : Int64 := if mwl M (nI p) = false then 0 else if b0 = false then M.2 5 p else 1
def mall (M : sSt) (b0 : Bool) : Nat → Int64
  | 0 => 0
  | n + 1 => mall M b0 n + mown M b0 n
def msp1 (T : sSt) (room all own : Int64) (n : Nat) : sSt := sI (sL (sL T 20 n (room * own / all)) 21 n (room * own - room * own / all * all)) 22 n (nI 0)
def mspl1 (M : sSt) (room all : Int64) (b0 : Bool) : Nat → sSt × Int64
  | 0 => (M, room)
  | n + 1 => (msp1 (mspl1 M room all b0 n).1 room all (mown (mspl1 M room all b0 n).1 b0 n) n, (mspl1 M room all b0 n).2 - (msp1 (mspl1 M room all b0 n).1 room all (mown (mspl1 M room all b0 n).1 b0 n) n).2 20 n)
def mbest (M : sSt) : Nat → Int32
  | 0 => (-1)
  | n + 1 => if ¬ M.1 22 n = 0 then mbest M n else if mbest M n = (-1) then nI n else if M.2 21 n ≤ M.2 21 (mbest M n).toNatClampNeg then mbest M n else nI n
theorem mbest_n (M : sSt) : ∀ n, mbest M n = (-1) ∨ ∃ q, q < n ∧ mbest M n = nI q
  | 0 => Or.inl rfl
  | n + 1 => by
    have ih := mbest_n M n
    have ih2 : mbest M n = (-1) ∨ ∃ q, q < n + 1 ∧ mbest M n = nI q := by
      rcases ih with h | ⟨q, hq, h⟩
      · exact Or.inl h
      · exact Or.inr ⟨q, by omega, h⟩
    rw [mbest]
    split
    · exact ih2
    · split
      · exact Or.inr ⟨n, by omega, rfl⟩
      · split
        · exact ih2
        · exact Or.inr ⟨n, by omega, rfl⟩
def mp2 (X : sSt × Int64) : sSt × Int64 := (sL (sI X.1 22 (mbest X.1 6).toNatClampNeg (nI 1)) 20 (mbest X.1 6).toNatClampNeg ((sI X.1 22 (mbest X.1 6).toNatClampNeg (nI 1)).2 20 (mbest X.1 6).toNatClampNeg + 1), X.2 - 1)
def mspl2 : Nat → sSt × Int64 → sSt × Int64
  | 0, X => X
  | n + 1, X => if X.2 ≤ 0 then X else mspl2 n (mp2 X)
/-- the splitting loop comes to its end within n rounds, and there is one to serve in each -/
def mspOk : Nat → sSt × Int64 → Prop
  | 0, X => X.2 ≤ 0
  | n + 1, X => X.2 ≤ 0 ∨ (¬ mbest X.1 6 = (-1) ∧ mspOk n (mp2 X))
def msplF (M : sSt) (room : Int64) (b0 : Bool) : sSt := (mspl2 6 (mspl1 M room (mall M b0 6) b0 6)).1
-- moves
def mmvOk (M : sSt) (bb pp : Nat) (vv : Int64) : Bool := if vv ≤ 0 then decide (-vv ≤ M.2 4 (12 * bb + 6 * 1 + pp)) else decide (vv ≤ M.2 4 (12 * bb + 6 * 0 + pp))
def mmv1 (M : sSt) (bb pp sd : Nat) (vv sz : Int64) : sSt := sL (sL M 4 (12 * bb + 6 * sd + pp) (M.2 4 (12 * bb + 6 * sd + pp) - sz)) 4 (12 * bb + 6 * (1 - sd) + pp) ((sL M 4 (12 * bb + 6 * sd + pp) (M.2 4 (12 * bb + 6 * sd + pp) - sz)).2 4 (12 * bb + 6 * (1 - sd) + pp) + sz)
def mmv2 (M : sSt) (bb : Nat) (vv : Int64) : sSt := sI (sL M 2 bb (M.2 2 bb - vv)) 0 22 ((sL M 2 bb (M.2 2 bb - vv)).1 0 22 + nI 1)
def mmvS (M : sSt) (bb pp : Nat) (vv : Int64) : sSt := if vv ≤ 0 then mmv2 (mmv1 M bb pp 1 vv (-vv)) bb vv else mmv2 (mmv1 M bb pp 0 vv vv) bb vv
theorem mspl2_step {i : Nat} {X t : sSt × Int64} (h : mspl2 (6 - i) X = t) (hi : i < 6) (hc : ¬ X.2 ≤ 0) : mspl2 (6 - (i + 1)) (mp2 X) = t := by
  have e : 6 - i = (6 - (i + 1)) + 1 := by omega
  rw [e, mspl2, if_neg hc] at h
  exact h
theorem mspl2_stop {n : Nat} {X t : sSt × Int64} (h : mspl2 n X = t) (hc : X.2 ≤ 0) : X = t := by
  cases n with
  | zero => exact h
  | succ n => rw [mspl2, if_pos hc] at h; exact h
theorem mspOk_lt {i : Nat} {X : sSt × Int64} (h : mspOk (6 - i) X) (hc : ¬ X.2 ≤ 0) : i < 6 := by
  rcases Nat.lt_or_ge i 6 with q | q
  · exact q
  · have e : 6 - i = 0 := by omega
    rw [e] at h
    exact absurd h hc
end
section
/-- the reference's cells -/
def wq (ca : Nat → ClassId) (ad : Nat → Nat) (S : sSt) : va_W := [(ad 0, .inr (6, [.int (S.1 0 0), .int (S.1 0 1), .ref (ad 1), .ref (ad 2), .ref (ad 3), .ref (ad 4), .ref (ad 5), .ref (ad 6), .ref (ad 7), .ref (ad 8), .ref (ad 9), .ref (ad 10), .ref (ad 11), .int (S.1 0 13), .ref (ad 12), .ref (ad 13), .ref (ad 14), .ref (ad 15), .ref (ad 16), .ref (ad 17), .ref (ad 18), .ref (ad 19), .int (S.1 0 22), .int (S.1 0 23), .ref (ad 20), .ref (ad 21), .ref (ad 22)])),
  (ad 1, .inl (ca 1, 6, .inr (.inl (S.2 1)))),
  (ad 2, .inl (ca 1, 6, .inr (.inl (S.2 2)))),
  (ad 3, .inl (ca 1, 6, .inr (.inl (S.2 3)))),
  (ad 4, .inl (ca 1, 72, .inr (.inl (S.2 4)))),
  (ad 5, .inl (ca 1, 6, .inr (.inl (S.2 5)))),
  (ad 6, .inl (ca 0, 6, .inl (S.1 6))),
  (ad 7, .inl (ca 2, 6, .inl (S.1 7))),
  (ad 8, .inl (ca 2, 36, .inl (S.1 8))),
  (ad 9, .inl (ca 0, 6, .inl (S.1 9))),
  (ad 10, .inl (ca 0, 48, .inl (S.1 10))),
  (ad 11, .inl (ca 1, 48, .inr (.inl (S.2 11)))),
  (ad 12, .inl (ca 0, 201, .inl (S.1 12))),
  (ad 13, .inl (ca 0, 201, .inl (S.1 13))),
  (ad 14, .inl (ca 0, 201, .inl (S.1 14))),
  (ad 15, .inl (ca 0, 201, .inl (S.1 15))),
  (ad 16, .inl (ca 1, 201, .inr (.inl (S.2 16)))),
  (ad 17, .inl (ca 0, 201, .inl (S.1 17))),
  (ad 18, .inl (ca 0, 201, .inl (S.1 18))),
  (ad 19, .inl (ca 2, 201, .inl (S.1 19))),
  (ad 20, .inl (ca 1, 6, .inr (.inl (S.2 20)))),
  (ad 21, .inl (ca 1, 6, .inr (.inl (S.2 21)))),
  (ad 22, .inl (ca 2, 6, .inl (S.1 22)))]
theorem sm_1 (ca : Nat → ClassId) (ad : Nat → Nat) (S : sSt) (j : Nat) (x : Int64) : (wq ca ad S).set 1 (ad 1, .inl (ca 1, 6, .inr (.inl (vp_updL (S.2 1) j x)))) = wq ca ad (sL S 1 j x) := rfl
theorem sm_2 (ca : Nat → ClassId) (ad : Nat → Nat) (S : sSt) (j : Nat) (x : Int64) : (wq ca ad S).set 2 (ad 2, .inl (ca 1, 6, .inr (.inl (vp_updL (S.2 2) j x)))) = wq ca ad (sL S 2 j x) := rfl
theorem sm_3 (ca : Nat → ClassId) (ad : Nat → Nat) (S : sSt) (j : Nat) (x : Int64) : (wq ca ad S).set 3 (ad 3, .inl (ca 1, 6, .inr (.inl (vp_updL (S.2 3) j x)))) = wq ca ad (sL S 3 j x) := rfl
theorem sm_4 (ca : Nat → ClassId) (ad : Nat → Nat) (S : sSt) (j : Nat) (x : Int64) : (wq ca ad S).set 4 (ad 4, .inl (ca 1, 72, .inr (.inl (vp_updL (S.2 4) j x)))) = wq ca ad (sL S 4 j x) := rfl
theorem sm_5 (ca : Nat → ClassId) (ad : Nat → Nat) (S : sSt) (j : Nat) (x : Int64) : (wq ca ad S).set 5 (ad 5, .inl (ca 1, 6, .inr (.inl (vp_updL (S.2 5) j x)))) = wq ca ad (sL S 5 j x) := rfl
theorem sm_6 (ca : Nat → ClassId) (ad : Nat → Nat) (S : sSt) (j : Nat) (x : Int32) : (wq ca ad S).set 6 (ad 6, .inl (ca 0, 6, .inl (upd (S.1 6) j x))) = wq ca ad (sI S 6 j x) := rfl
theorem sm_7 (ca : Nat → ClassId) (ad : Nat → Nat) (S : sSt) (j : Nat) (x : Int32) : (wq ca ad S).set 7 (ad 7, .inl (ca 2, 6, .inl (upd (S.1 7) j x))) = wq ca ad (sI S 7 j x) := rfl
theorem sm_8 (ca : Nat → ClassId) (ad : Nat → Nat) (S : sSt) (j : Nat) (x : Int32) : (wq ca ad S).set 8 (ad 8, .inl (ca 2, 36, .inl (upd (S.1 8) j x))) = wq ca ad (sI S 8 j x) := rfl
theorem sm_9 (ca : Nat → ClassId) (ad : Nat → Nat) (S : sSt) (j : Nat) (x : Int32) : (wq ca ad S).set 9 (ad 9, .inl (ca 0, 6, .inl (upd (S.1 9) j x))) = wq ca ad (sI S 9 j x) := rfl
theorem sm_10 (ca : Nat → ClassId) (ad : Nat → Nat) (S : sSt) (j : Nat) (x : Int32) : (wq ca ad S).set 10 (ad 10, .inl (ca 0, 48, .inl (upd (S.1 10) j x))) = wq ca ad (sI S 10 j x) := rfl
theorem sm_11 (ca : Nat → ClassId) (ad : Nat → Nat) (S : sSt) (j : Nat) (x : Int64) : (wq ca ad S).set 11 (ad 11, .inl (ca 1, 48, .inr (.inl (vp_updL (S.2 11) j x)))) = wq ca ad (sL S 11 j x) := rfl
theorem sm_12 (ca : Nat → ClassId) (ad : Nat → Nat) (S : sSt) (j : Nat) (x : Int32) : (wq ca ad S).set 12 (ad 12, .inl (ca 0, 201, .inl (upd (S.1 12) j x))) = wq ca ad (sI S 12 j x) := rfl
theorem sm_13 (ca : Nat → ClassId) (ad : Nat → Nat) (S : sSt) (j : Nat) (x : Int32) : (wq ca ad S).set 13 (ad 13, .inl (ca 0, 201, .inl (upd (S.1 13) j x))) = wq ca ad (sI S 13 j x) := rfl
theorem sm_14 (ca : Nat → ClassId) (ad : Nat → Nat) (S : sSt) (j : Nat) (x : Int32) : (wq ca ad S).set 14 (ad 14, .inl (ca 0, 201, .inl (upd (S.1 14) j x))) = wq ca ad (sI S 14 j x) := rfl
theorem sm_15 (ca : Nat → ClassId) (ad : Nat → Nat) (S : sSt) (j : Nat) (x : Int32) : (wq ca ad S).set 15 (ad 15, .inl (ca 0, 201, .inl (upd (S.1 15) j x))) = wq ca ad (sI S 15 j x) := rfl
theorem sm_16 (ca : Nat → ClassId) (ad : Nat → Nat) (S : sSt) (j : Nat) (x : Int64) : (wq ca ad S).set 16 (ad 16, .inl (ca 1, 201, .inr (.inl (vp_updL (S.2 16) j x)))) = wq ca ad (sL S 16 j x) := rfl
theorem sm_17 (ca : Nat → ClassId) (ad : Nat → Nat) (S : sSt) (j : Nat) (x : Int32) : (wq ca ad S).set 17 (ad 17, .inl (ca 0, 201, .inl (upd (S.1 17) j x))) = wq ca ad (sI S 17 j x) := rfl
theorem sm_18 (ca : Nat → ClassId) (ad : Nat → Nat) (S : sSt) (j : Nat) (x : Int32) : (wq ca ad S).set 18 (ad 18, .inl (ca 0, 201, .inl (upd (S.1 18) j x))) = wq ca ad (sI S 18 j x) := rfl
theorem sm_19 (ca : Nat → ClassId) (ad : Nat → Nat) (S : sSt) (j : Nat) (x : Int32) : (wq ca ad S).set 19 (ad 19, .inl (ca 2, 201, .inl (upd (S.1 19) j x))) = wq ca ad (sI S 19 j x) := rfl
theorem sm_20 (ca : Nat → ClassId) (ad : Nat → Nat) (S : sSt) (j : Nat) (x : Int64) : (wq ca ad S).set 20 (ad 20, .inl (ca 1, 6, .inr (.inl (vp_updL (S.2 20) j x)))) = wq ca ad (sL S 20 j x) := rfl
theorem sm_21 (ca : Nat → ClassId) (ad : Nat → Nat) (S : sSt) (j : Nat) (x : Int64) : (wq ca ad S).set 21 (ad 21, .inl (ca 1, 6, .inr (.inl (vp_updL (S.2 21) j x)))) = wq ca ad (sL S 21 j x) := rfl
theorem sm_22 (ca : Nat → ClassId) (ad : Nat → Nat) (S : sSt) (j : Nat) (x : Int32) : (wq ca ad S).set 22 (ad 22, .inl (ca 2, 6, .inl (upd (S.1 22) j x))) = wq ca ad (sI S 22 j x) := rfl
theorem sg_0 (ca : Nat → ClassId) (ad : Nat → Nat) (S : sSt) (x : Int32) : (wq ca ad S).set 0 (ad 0, .inr (6, [.int x, .int (S.1 0 1), .ref (ad 1), .ref (ad 2), .ref (ad 3), .ref (ad 4), .ref (ad 5), .ref (ad 6), .ref (ad 7), .ref (ad 8), .ref (ad 9), .ref (ad 10), .ref (ad 11), .int (S.1 0 13), .ref (ad 12), .ref (ad 13), .ref (ad 14), .ref (ad 15), .ref (ad 16), .ref (ad 17), .ref (ad 18), .ref (ad 19), .int (S.1 0 22), .int (S.1 0 23), .ref (ad 20), .ref (ad 21), .ref (ad 22)])) = wq ca ad (sI S 0 0 x) := rfl
theorem sg_1 (ca : Nat → ClassId) (ad : Nat → Nat) (S : sSt) (x : Int32) : (wq ca ad S).set 0 (ad 0, .inr (6, [.int (S.1 0 0), .int x, .ref (ad 1), .ref (ad 2), .ref (ad 3), .ref (ad 4), .ref (ad 5), .ref (ad 6), .ref (ad 7), .ref (ad 8), .ref (ad 9), .ref (ad 10), .ref (ad 11), .int (S.1 0 13), .ref (ad 12), .ref (ad 13), .ref (ad 14), .ref (ad 15), .ref (ad 16), .ref (ad 17), .ref (ad 18), .ref (ad 19), .int (S.1 0 22), .int (S.1 0 23), .ref (ad 20), .ref (ad 21), .ref (ad 22)])) = wq ca ad (sI S 0 1 x) := rfl
theorem sg_13 (ca : Nat → ClassId) (ad : Nat → Nat) (S : sSt) (x : Int32) : (wq ca ad S).set 0 (ad 0, .inr (6, [.int (S.1 0 0), .int (S.1 0 1), .ref (ad 1), .ref (ad 2), .ref (ad 3), .ref (ad 4), .ref (ad 5), .ref (ad 6), .ref (ad 7), .ref (ad 8), .ref (ad 9), .ref (ad 10), .ref (ad 11), .int x, .ref (ad 12), .ref (ad 13), .ref (ad 14), .ref (ad 15), .ref (ad 16), .ref (ad 17), .ref (ad 18), .ref (ad 19), .int (S.1 0 22), .int (S.1 0 23), .ref (ad 20), .ref (ad 21), .ref (ad 22)])) = wq ca ad (sI S 0 13 x) := rfl
theorem sg_22 (ca : Nat → ClassId) (ad : Nat → Nat) (S : sSt) (x : Int32) : (wq ca ad S).set 0 (ad 0, .inr (6, [.int (S.1 0 0), .int (S.1 0 1), .ref (ad 1), .ref (ad 2), .ref (ad 3), .ref (ad 4), .ref (ad 5), .ref (ad 6), .ref (ad 7), .ref (ad 8), .ref (ad 9), .ref (ad 10), .ref (ad 11), .int (S.1 0 13), .ref (ad 12), .ref (ad 13), .ref (ad 14), .ref (ad 15), .ref (ad 16), .ref (ad 17), .ref (ad 18), .ref (ad 19), .int x, .int (S.1 0 23), .ref (ad 20), .ref (ad 21), .ref (ad 22)])) = wq ca ad (sI S 0 22 x) := rfl
theorem sg_23 (ca : Nat → ClassId) (ad : Nat → Nat) (S : sSt) (x : Int32) : (wq ca ad S).set 0 (ad 0, .inr (6, [.int (S.1 0 0), .int (S.1 0 1), .ref (ad 1), .ref (ad 2), .ref (ad 3), .ref (ad 4), .ref (ad 5), .ref (ad 6), .ref (ad 7), .ref (ad 8), .ref (ad 9), .ref (ad 10), .ref (ad 11), .int (S.1 0 13), .ref (ad 12), .ref (ad 13), .ref (ad 14), .ref (ad 15), .ref (ad 16), .ref (ad 17), .ref (ad 18), .ref (ad 19), .int (S.1 0 22), .int x, .ref (ad 20), .ref (ad 21), .ref (ad 22)])) = wq ca ad (sI S 0 23 x) := rfl
end
section
theorem dX6_thrown_0 : decode cX6_thrown 0 = .ok (.aload_n 0, 1) := by decide +kernel
theorem dX6_thrown_1 : decode cX6_thrown 1 = .ok (.getfield 78, 3) := by decide +kernel
theorem dX6_thrown_4 : decode cX6_thrown 4 = .ok (.ireturn, 1) := by decide +kernel

theorem dX6_raise_0 : decode cX6_raise 0 = .ok (.aload_n 0, 1) := by decide +kernel
theorem dX6_raise_1 : decode cX6_raise 1 = .ok (.iload_n 1, 1) := by decide +kernel
theorem dX6_raise_2 : decode cX6_raise 2 = .ok (.putfield 78, 3) := by decide +kernel
theorem dX6_raise_5 : decode cX6_raise 5 = .ok (.iconst 0, 1) := by decide +kernel
theorem dX6_raise_6 : decode cX6_raise 6 = .ok (.ireturn, 1) := by decide +kernel

theorem dX6_within_0 : decode cX6_within 0 = .ok (.lload_n 0, 1) := by decide +kernel
theorem dX6_within_1 : decode cX6_within 1 = .ok (.lload_n 2, 1) := by decide +kernel
theorem dX6_within_2 : decode cX6_within 2 = .ok (.lcmp, 1) := by decide +kernel
theorem dX6_within_3 : decode cX6_within 3 = .ok (.ifCond .lt 14, 3) := by decide +kernel
theorem dX6_within_6 : decode cX6_within 6 = .ok (.lload_n 0, 1) := by decide +kernel
theorem dX6_within_7 : decode cX6_within 7 = .ok (.lload 4, 2) := by decide +kernel
theorem dX6_within_9 : decode cX6_within 9 = .ok (.lcmp, 1) := by decide +kernel
theorem dX6_within_10 : decode cX6_within 10 = .ok (.ifCond .gt 7, 3) := by decide +kernel
theorem dX6_within_13 : decode cX6_within 13 = .ok (.iconst 1, 1) := by decide +kernel
theorem dX6_within_14 : decode cX6_within 14 = .ok (.goto 4, 3) := by decide +kernel
theorem dX6_within_17 : decode cX6_within 17 = .ok (.iconst 0, 1) := by decide +kernel
theorem dX6_within_18 : decode cX6_within 18 = .ok (.ireturn, 1) := by decide +kernel

theorem dX6_at_0 : decode cX6_at 0 = .ok (.bipush 12, 2) := by decide +kernel
theorem dX6_at_2 : decode cX6_at 2 = .ok (.iload_n 0, 1) := by decide +kernel
theorem dX6_at_3 : decode cX6_at 3 = .ok (.imul, 1) := by decide +kernel
theorem dX6_at_4 : decode cX6_at 4 = .ok (.bipush 6, 2) := by decide +kernel
theorem dX6_at_6 : decode cX6_at 6 = .ok (.iload_n 1, 1) := by decide +kernel
theorem dX6_at_7 : decode cX6_at 7 = .ok (.imul, 1) := by decide +kernel
theorem dX6_at_8 : decode cX6_at 8 = .ok (.iadd, 1) := by decide +kernel
theorem dX6_at_9 : decode cX6_at 9 = .ok (.iload_n 2, 1) := by decide +kernel
theorem dX6_at_10 : decode cX6_at 10 = .ok (.iadd, 1) := by decide +kernel
theorem dX6_at_11 : decode cX6_at 11 = .ok (.ireturn, 1) := by decide +kernel

theorem dX6_isWell_0 : decode cX6_isWell 0 = .ok (.iload_n 1, 1) := by decide +kernel
theorem dX6_isWell_1 : decode cX6_isWell 1 = .ok (.i2l, 1) := by decide +kernel
theorem dX6_isWell_2 : decode cX6_isWell 2 = .ok (.lconst 0, 1) := by decide +kernel
theorem dX6_isWell_3 : decode cX6_isWell 3 = .ok (.ldc2_w 82, 3) := by decide +kernel
theorem dX6_isWell_6 : decode cX6_isWell 6 = .ok (.invokestatic 84, 3) := by decide +kernel
theorem dX6_isWell_9 : decode cX6_isWell 9 = .ok (.ifCond .eq 16, 3) := by decide +kernel
theorem dX6_isWell_12 : decode cX6_isWell 12 = .ok (.aload_n 0, 1) := by decide +kernel
theorem dX6_isWell_13 : decode cX6_isWell 13 = .ok (.getfield 25, 3) := by decide +kernel
theorem dX6_isWell_16 : decode cX6_isWell 16 = .ok (.iload_n 1, 1) := by decide +kernel
theorem dX6_isWell_17 : decode cX6_isWell 17 = .ok (.iaload, 1) := by decide +kernel
theorem dX6_isWell_18 : decode cX6_isWell 18 = .ok (.ifCond .ne 7, 3) := by decide +kernel
theorem dX6_isWell_21 : decode cX6_isWell 21 = .ok (.iconst 1, 1) := by decide +kernel
theorem dX6_isWell_22 : decode cX6_isWell 22 = .ok (.goto 4, 3) := by decide +kernel
theorem dX6_isWell_25 : decode cX6_isWell 25 = .ok (.iconst 0, 1) := by decide +kernel
theorem dX6_isWell_26 : decode cX6_isWell 26 = .ok (.ireturn, 1) := by decide +kernel

theorem dX6_isBound_0 : decode cX6_isBound 0 = .ok (.iload_n 1, 1) := by decide +kernel
theorem dX6_isBound_1 : decode cX6_isBound 1 = .ok (.i2l, 1) := by decide +kernel
theorem dX6_isBound_2 : decode cX6_isBound 2 = .ok (.lconst 0, 1) := by decide +kernel
theorem dX6_isBound_3 : decode cX6_isBound 3 = .ok (.aload_n 0, 1) := by decide +kernel
theorem dX6_isBound_4 : decode cX6_isBound 4 = .ok (.getfield 88, 3) := by decide +kernel
theorem dX6_isBound_7 : decode cX6_isBound 7 = .ok (.i2l, 1) := by decide +kernel
theorem dX6_isBound_8 : decode cX6_isBound 8 = .ok (.lconst 1, 1) := by decide +kernel
theorem dX6_isBound_9 : decode cX6_isBound 9 = .ok (.lsub, 1) := by decide +kernel
theorem dX6_isBound_10 : decode cX6_isBound 10 = .ok (.invokestatic 84, 3) := by decide +kernel
theorem dX6_isBound_13 : decode cX6_isBound 13 = .ok (.ireturn, 1) := by decide +kernel

theorem dX6_isRow_0 : decode cX6_isRow 0 = .ok (.iload_n 1, 1) := by decide +kernel
theorem dX6_isRow_1 : decode cX6_isRow 1 = .ok (.i2l, 1) := by decide +kernel
theorem dX6_isRow_2 : decode cX6_isRow 2 = .ok (.lconst 1, 1) := by decide +kernel
theorem dX6_isRow_3 : decode cX6_isRow 3 = .ok (.aload_n 0, 1) := by decide +kernel
theorem dX6_isRow_4 : decode cX6_isRow 4 = .ok (.getfield 130, 3) := by decide +kernel
theorem dX6_isRow_7 : decode cX6_isRow 7 = .ok (.i2l, 1) := by decide +kernel
theorem dX6_isRow_8 : decode cX6_isRow 8 = .ok (.invokestatic 84, 3) := by decide +kernel
theorem dX6_isRow_11 : decode cX6_isRow 11 = .ok (.ireturn, 1) := by decide +kernel

set_option maxHeartbeats 4000000 in
set_option maxRecDepth 100000 in
theorem kX6_thrown (l : Launch) (dC : Nat → ClassId) (dI : Nat → Nat → Nat) (ca : Nat → ClassId) (ad : Nat → Nat) (S : sSt)  : ct_I l yX6_thrown (Cond.code yX6_thrown cX6_thrown 1 (some .int) :: wa_T) ({ frames := 0, cells := 0, slots := 0, locals := 0 } : Room) (dC, dI) vwCl (tyl ca) (wq ca ad) S [.ref (ad 0)] (fun r S2 => r = S.1 0 0 ∧ S2 = S) := by
  refine ct_ofI (by decide) (Nat.le_of_ble_eq_true rfl) ?_
  intro p e s m below meth c A ls hx hb hr hml hts hown hlocks hK hA hw hl
  have hl : lv_has ls 1 [(0, .ref (ad 0))] := hl
  refine lv_aload_n hx hb dX6_thrown_0 rfl (lv_at hl 0 rfl) ?_
  refine wo_get hx hb hts inX6 hown hK hw 0 rfl rfl 0 (by decide) (hts _ wd_565) (fun _ h9 => h9) rfl dX6_thrown_1 ?_
  exact ct_iret (S := S) (v := S.1 0 0) hx hb hr hlocks hK hw (⟨rfl, rfl⟩) dX6_thrown_4

set_option maxHeartbeats 4000000 in
set_option maxRecDepth 100000 in
theorem kX6_raise (l : Launch) (dC : Nat → ClassId) (dI : Nat → Nat → Nat) (ca : Nat → ClassId) (ad : Nat → Nat) (S : sSt) (cc0 : Int32) : ct_I l yX6_raise (Cond.code yX6_raise cX6_raise 2 (some .int) :: wa_T) ({ frames := 0, cells := 0, slots := 0, locals := 0 } : Room) (dC, dI) vwCl (tyl ca) (wq ca ad) S [.ref (ad 0), .int cc0] (fun r S2 => r = nI 0 ∧ S2 = sI S 0 0 cc0) := by
  refine ct_ofI (by decide) (Nat.le_of_ble_eq_true rfl) ?_
  intro p e s m below meth c A ls hx hb hr hml hts hown hlocks hK hA hw hl
  have hl : lv_has ls 2 [(0, .ref (ad 0)), (1, .int cc0)] := hl
  refine lv_aload_n hx hb dX6_raise_0 rfl (lv_at hl 0 rfl) ?_
  refine lv_iload_n hx hb dX6_raise_1 rfl (lv_at hl 1 rfl) ?_
  refine wo_put (ty := .int) (v := .int cc0) hx hb hts inX6 tyX6 tyX6_ok nmX6 hown hK hw 0 rfl rfl 0 (by decide) (hts _ wd_565) (fun _ h9 => h9) rfl (by decide +kernel) rfl rfl (Nat.le_of_ble_eq_true rfl) (sg_0 ca ad S cc0) dX6_raise_2 (fun H locs hw => ?_)
  refine lv_iconst (v := nI 0) hx hb dX6_raise_5 (by decide) ?_
  exact ct_iret (S := sI S 0 0 cc0) (v := nI 0) hx hb hr hlocks hK hw (⟨rfl, rfl⟩) dX6_raise_6

set_option maxHeartbeats 4000000 in
set_option maxRecDepth 100000 in
theorem kX6_within (l : Launch) (dC : Nat → ClassId) (dI : Nat → Nat → Nat) (ca : Nat → ClassId) (ad : Nat → Nat) (S : sSt) (xx : Int64) (lo : Int64) (hh : Int64) : ct_I l yX6_within (Cond.code yX6_within cX6_within 6 (some .boolean) :: wa_T) ({ frames := 0, cells := 0, slots := 0, locals := 0 } : Room) (dC, dI) vwCl (tyl ca) (wq ca ad) S [.long xx, .long lo, .long hh] (fun r S2 => r = bI (wth xx lo hh) ∧ S2 = S) := by
  refine ct_ofI (by decide) (Nat.le_of_ble_eq_true rfl) ?_
  intro p e s m below meth c A ls hx hb hr hml hts hown hlocks hK hA hw hl
  have hl : lv_has ls 6 [(0, .long xx), (2, .long lo), (4, .long hh)] := hl
  refine lv_lload_n hx hb dX6_within_0 rfl (lv_at hl 0 rfl) ?_
  refine lv_lload_n hx hb dX6_within_1 rfl (lv_at hl 1 rfl) ?_
  refine lc_lt (tgt := 17) hx hb dX6_within_2 dX6_within_3 (by decide) (fun c_1 => ?_) (fun c_1 => ?_)
  · skip
    refine lv_iconst (v := nI 0) hx hb dX6_within_17 (by decide) ?_
    exact ct_zret (S := S) (v := nI 0) hx hb hr hlocks hK (by first | decide | exact nb_z _) hw (⟨by simp only [bI, wth, c_1, decide_true, decide_false, Bool.not_true, Bool.not_false, Bool.true_and, Bool.and_true, Bool.false_and, Bool.and_false, Bool.or_true, Bool.true_or, Bool.or_false, Bool.false_or, Bool.false_eq_true, Bool.true_eq_false, if_true, if_false, ↓reduceIte], rfl⟩) dX6_within_18
  · skip
    refine lv_lload_n hx hb dX6_within_6 rfl (lv_at hl 0 rfl) ?_
    refine lv_lload hx hb dX6_within_7 (lv_at hl 2 rfl) ?_
    refine lc_gt (tgt := 17) hx hb dX6_within_9 dX6_within_10 (by decide) (fun c_2 => ?_) (fun c_2 => ?_)
    · skip
      refine lv_iconst (v := nI 0) hx hb dX6_within_17 (by decide) ?_
      exact ct_zret (S := S) (v := nI 0) hx hb hr hlocks hK (by first | decide | exact nb_z _) hw (⟨by simp only [bI, wth, c_1, c_2, decide_true, decide_false, Bool.not_true, Bool.not_false, Bool.true_and, Bool.and_true, Bool.false_and, Bool.and_false, Bool.or_true, Bool.true_or, Bool.or_false, Bool.false_or, Bool.false_eq_true, Bool.true_eq_false, if_true, if_false, ↓reduceIte], rfl⟩) dX6_within_18
    · skip
      refine lv_iconst (v := nI 1) hx hb dX6_within_13 (by decide) ?_
      refine lv_goto (tgt := 18) hx hb dX6_within_14 (by decide) ?_
      exact ct_zret (S := S) (v := nI 1) hx hb hr hlocks hK (by first | decide | exact nb_z _) hw (⟨by simp only [bI, wth, c_1, c_2, decide_true, decide_false, Bool.not_true, Bool.not_false, Bool.true_and, Bool.and_true, Bool.false_and, Bool.and_false, Bool.or_true, Bool.true_or, Bool.or_false, Bool.false_or, Bool.false_eq_true, Bool.true_eq_false, if_true, if_false, ↓reduceIte], rfl⟩) dX6_within_18

set_option maxHeartbeats 4000000 in
set_option maxRecDepth 100000 in
theorem kX6_at (l : Launch) (dC : Nat → ClassId) (dI : Nat → Nat → Nat) (ca : Nat → ClassId) (ad : Nat → Nat) (S : sSt) (bb : Nat) (sd : Nat) (pp : Nat) : ct_I l yX6_at (Cond.code yX6_at cX6_at 3 (some .int) :: wa_T) ({ frames := 0, cells := 0, slots := 0, locals := 0 } : Room) (dC, dI) vwCl (tyl ca) (wq ca ad) S [.int (nI bb), .int (nI sd), .int (nI pp)] (fun r S2 => r = nI (12 * bb + 6 * sd + pp) ∧ S2 = S) := by
  refine ct_ofI (by decide) (Nat.le_of_ble_eq_true rfl) ?_
  intro p e s m below meth c A ls hx hb hr hml hts hown hlocks hK hA hw hl
  have hl : lv_has ls 3 [(0, .int (nI bb)), (1, .int (nI sd)), (2, .int (nI pp))] := hl
  refine lv_bipush (v := nI 12) hx hb dX6_at_0 (by decide) ?_
  refine lv_iload_n hx hb dX6_at_2 rfl (lv_at hl 0 rfl) ?_
  refine lv_imul hx hb dX6_at_3 ?_
  refine tp_i (pk_mul 12 bb) ?_
  refine lv_bipush (v := nI 6) hx hb dX6_at_4 (by decide) ?_
  refine lv_iload_n hx hb dX6_at_6 rfl (lv_at hl 1 rfl) ?_
  refine lv_imul hx hb dX6_at_7 ?_
  refine tp_i (pk_mul 6 sd) ?_
  refine lv_iadd hx hb dX6_at_8 ?_
  refine tp_i (nI_add (12 * bb) (6 * sd)) ?_
  refine lv_iload_n hx hb dX6_at_9 rfl (lv_at hl 2 rfl) ?_
  refine lv_iadd hx hb dX6_at_10 ?_
  refine tp_i (nI_add ((12 * bb) + (6 * sd)) pp) ?_
  exact ct_iret (S := S) (v := nI (((12 * bb) + (6 * sd)) + pp)) hx hb hr hlocks hK hw (⟨rfl, rfl⟩) dX6_at_11

set_option maxHeartbeats 4000000 in
set_option maxRecDepth 100000 in
theorem kX6_isWell (l : Launch) (dC : Nat → ClassId) (dI : Nat → Nat → Nat) (ca : Nat → ClassId) (ad : Nat → Nat) (S : sSt) (pp : Int32) : ct_I l yX6_isWell (Cond.code yX6_isWell cX6_isWell 2 (some .boolean) :: wa_T) ({ frames := 1, cells := 0, slots := 0, locals := 25 } : Room) (dC, dI) vwCl (tyl ca) (wq ca ad) S [.ref (ad 0), .int pp] (fun r S2 => r = bI (mwl S pp) ∧ S2 = S) := by
  refine ct_ofI (by decide) (Nat.le_of_ble_eq_true rfl) ?_
  intro p e s m below meth c A ls hx hb hr hml hts hown hlocks hK hA hw hl
  have hl : lv_has ls 2 [(0, .ref (ad 0)), (1, .int pp)] := hl
  refine lv_iload_n hx hb dX6_isWell_0 rfl (lv_at hl 1 rfl) ?_
  refine lv_i2l hx hb dX6_isWell_1 rfl ?_
  refine lv_lconst (v := 0) hx hb dX6_isWell_2 (by decide) ?_
  refine lv_ldc2 hx hb hown (hts _ wd_659) dX6_isWell_3 ?_
  refine wo_sI (As := [.long ((pp).toInt64), .long 0, .long 5]) (rest := []) (kX6_within l dC dI ca ad S ((pp).toInt64) 0 5) ⟨hx, hb, hml, hown, hts⟩ (va_cwS 3 hts (wa_gS wd_660 wd_661 wd_8 wd_662) rfl rfl rfl (by decide +kernel) ⟨Nat.le_of_ble_eq_true rfl, Nat.le_of_ble_eq_true rfl⟩) hK hw hA rfl hl.1 rfl (Nat.le_of_ble_eq_true rfl) dX6_isWell_6 ⟨Nat.zero_le _, Nat.zero_le _⟩ (fun r_1 S_1 H locs hp_1 hw => ?_)
  have e9 := hp_1.1.symm
  subst e9
  have e9 := hp_1.2.symm
  subst e9
  refine lv_if_eq (tgt := 25) hx hb dX6_isWell_9 (by decide) (fun c_2 => ?_) (fun c_2 => ?_)
  · skip
    have c_2 : wth ((pp).toInt64) 0 5 = false := nb_0 c_2
    refine lv_iconst (v := nI 0) hx hb dX6_isWell_25 (by decide) ?_
    exact ct_zret (S := S) (v := nI 0) hx hb hr hlocks hK (by first | decide | exact nb_z _) hw (⟨by simp only [bI, mwl, c_2, decide_true, decide_false, Bool.not_true, Bool.not_false, Bool.true_and, Bool.and_true, Bool.false_and, Bool.and_false, Bool.or_true, Bool.true_or, Bool.or_false, Bool.false_or, Bool.false_eq_true, Bool.true_eq_false, if_true, if_false, ↓reduceIte], rfl⟩) dX6_isWell_26
  · skip
    have c_2 : wth ((pp).toInt64) 0 5 = true := nb_1 c_2
    obtain ⟨p9, hp9, rfl⟩ := w5_n c_2
    have ec_p9 := nI_clamp (n := p9) (by omega)
    refine lv_aload_n hx hb dX6_isWell_12 rfl (lv_at hl 0 rfl) ?_
    refine wo_get hx hb hts inX6 hown hK hw 0 rfl rfl 7 (by decide) (hts _ wd_572) (fun _ h9 => h9) rfl dX6_isWell_13 ?_
    refine lv_iload_n hx hb dX6_isWell_16 rfl (lv_at hl 1 rfl) ?_
    refine wo_iald hx hb hK hw 6 0 rfl rfl p9 rfl (by first | assumption | omega) (by decide) dX6_isWell_17 ?_
    refine lv_if_ne (tgt := 25) hx hb dX6_isWell_18 (by decide) (fun c_3 => ?_) (fun c_3 => ?_)
    · skip
      refine lv_iconst (v := nI 0) hx hb dX6_isWell_25 (by decide) ?_
      exact ct_zret (S := S) (v := nI 0) hx hb hr hlocks hK (by first | decide | exact nb_z _) hw (⟨by simp only [bI, mwl, c_2, ec_p9, c_3, decide_true, decide_false, Bool.not_true, Bool.not_false, Bool.true_and, Bool.and_true, Bool.false_and, Bool.and_false, Bool.or_true, Bool.true_or, Bool.or_false, Bool.false_or, Bool.false_eq_true, Bool.true_eq_false, if_true, if_false, ↓reduceIte], rfl⟩) dX6_isWell_26
    · skip
      refine lv_iconst (v := nI 1) hx hb dX6_isWell_21 (by decide) ?_
      refine lv_goto (tgt := 26) hx hb dX6_isWell_22 (by decide) ?_
      exact ct_zret (S := S) (v := nI 1) hx hb hr hlocks hK (by first | decide | exact nb_z _) hw (⟨by simp only [bI, mwl, c_2, ec_p9, c_3, decide_true, decide_false, Bool.not_true, Bool.not_false, Bool.true_and, Bool.and_true, Bool.false_and, Bool.and_false, Bool.or_true, Bool.true_or, Bool.or_false, Bool.false_or, Bool.false_eq_true, Bool.true_eq_false, if_true, if_false, ↓reduceIte], rfl⟩) dX6_isWell_26

set_option maxHeartbeats 4000000 in
set_option maxRecDepth 100000 in
theorem kX6_isBound (l : Launch) (dC : Nat → ClassId) (dI : Nat → Nat → Nat) (ca : Nat → ClassId) (ad : Nat → Nat) (S : sSt) (bb : Int32) : ct_I l yX6_isBound (Cond.code yX6_isBound cX6_isBound 2 (some .boolean) :: wa_T) ({ frames := 1, cells := 0, slots := 0, locals := 25 } : Room) (dC, dI) vwCl (tyl ca) (wq ca ad) S [.ref (ad 0), .int bb] (fun r S2 => r = bI (mbd S bb) ∧ S2 = S) := by
  refine ct_ofI (by decide) (Nat.le_of_ble_eq_true rfl) ?_
  intro p e s m below meth c A ls hx hb hr hml hts hown hlocks hK hA hw hl
  have hl : lv_has ls 2 [(0, .ref (ad 0)), (1, .int bb)] := hl
  refine lv_iload_n hx hb dX6_isBound_0 rfl (lv_at hl 1 rfl) ?_
  refine lv_i2l hx hb dX6_isBound_1 rfl ?_
  refine lv_lconst (v := 0) hx hb dX6_isBound_2 (by decide) ?_
  refine lv_aload_n hx hb dX6_isBound_3 rfl (lv_at hl 0 rfl) ?_
  refine wo_get hx hb hts inX6 hown hK hw 0 rfl rfl 1 (by decide) (hts _ wd_566) (fun _ h9 => h9) rfl dX6_isBound_4 ?_
  refine lv_i2l hx hb dX6_isBound_7 rfl ?_
  refine lv_lconst (v := 1) hx hb dX6_isBound_8 (by decide) ?_
  refine lv_lsub hx hb dX6_isBound_9 ?_
  refine wo_sI (As := [.long ((bb).toInt64), .long 0, .long ((((S.1 0 1)).toInt64) - 1)]) (rest := []) (kX6_within l dC dI ca ad S ((bb).toInt64) 0 ((((S.1 0 1)).toInt64) - 1)) ⟨hx, hb, hml, hown, hts⟩ (va_cwS 3 hts (wa_gS wd_660 wd_661 wd_8 wd_662) rfl rfl rfl (by decide +kernel) ⟨Nat.le_of_ble_eq_true rfl, Nat.le_of_ble_eq_true rfl⟩) hK hw hA rfl hl.1 rfl (Nat.le_of_ble_eq_true rfl) dX6_isBound_10 ⟨Nat.zero_le _, Nat.zero_le _⟩ (fun r_1 S_1 H locs hp_1 hw => ?_)
  have e9 := hp_1.1.symm
  subst e9
  have e9 := hp_1.2.symm
  subst e9
  exact ct_zret (S := S) (v := bI (wth ((bb).toInt64) 0 ((((S.1 0 1)).toInt64) - 1))) hx hb hr hlocks hK (by first | decide | exact nb_z _) hw (⟨rfl, rfl⟩) dX6_isBound_13

set_option maxHeartbeats 4000000 in
set_option maxRecDepth 100000 in
theorem kX6_isRow (l : Launch) (dC : Nat → ClassId) (dI : Nat → Nat → Nat) (ca : Nat → ClassId) (ad : Nat → Nat) (S : sSt) (rr : Int32) : ct_I l yX6_isRow (Cond.code yX6_isRow cX6_isRow 2 (some .boolean) :: wa_T) ({ frames := 1, cells := 0, slots := 0, locals := 25 } : Room) (dC, dI) vwCl (tyl ca) (wq ca ad) S [.ref (ad 0), .int rr] (fun r S2 => r = bI (mrw S rr) ∧ S2 = S) := by
  refine ct_ofI (by decide) (Nat.le_of_ble_eq_true rfl) ?_
  intro p e s m below meth c A ls hx hb hr hml hts hown hlocks hK hA hw hl
  have hl : lv_has ls 2 [(0, .ref (ad 0)), (1, .int rr)] := hl
  refine lv_iload_n hx hb dX6_isRow_0 rfl (lv_at hl 1 rfl) ?_
  refine lv_i2l hx hb dX6_isRow_1 rfl ?_
  refine lv_lconst (v := 1) hx hb dX6_isRow_2 (by decide) ?_
  refine lv_aload_n hx hb dX6_isRow_3 rfl (lv_at hl 0 rfl) ?_
  refine wo_get hx hb hts inX6 hown hK hw 0 rfl rfl 13 (by decide) (hts _ wd_578) (fun _ h9 => h9) rfl dX6_isRow_4 ?_
  refine lv_i2l hx hb dX6_isRow_7 rfl ?_
  refine wo_sI (As := [.long ((rr).toInt64), .long 1, .long (((S.1 0 13)).toInt64)]) (rest := []) (kX6_within l dC dI ca ad S ((rr).toInt64) 1 (((S.1 0 13)).toInt64)) ⟨hx, hb, hml, hown, hts⟩ (va_cwS 3 hts (wa_gS wd_660 wd_661 wd_8 wd_662) rfl rfl rfl (by decide +kernel) ⟨Nat.le_of_ble_eq_true rfl, Nat.le_of_ble_eq_true rfl⟩) hK hw hA rfl hl.1 rfl (Nat.le_of_ble_eq_true rfl) dX6_isRow_8 ⟨Nat.zero_le _, Nat.zero_le _⟩ (fun r_1 S_1 H locs hp_1 hw => ?_)
  have e9 := hp_1.1.symm
  subst e9
  have e9 := hp_1.2.symm
  subst e9
  exact ct_zret (S := S) (v := bI (wth ((rr).toInt64) 1 (((S.1 0 13)).toInt64))) hx hb hr hlocks hK (by first | decide | exact nb_z _) hw (⟨rfl, rfl⟩) dX6_isRow_11
end
section
theorem dX6_split_0 : decode cX6_split 0 = .ok (.lconst 0, 1) := by decide +kernel
theorem dX6_split_1 : decode cX6_split 1 = .ok (.lstore 4, 2) := by decide +kernel
theorem dX6_split_3 : decode cX6_split 3 = .ok (.iconst 0, 1) := by decide +kernel
theorem dX6_split_4 : decode cX6_split 4 = .ok (.istore 6, 2) := by decide +kernel
theorem dX6_split_6 : decode cX6_split 6 = .ok (.iload 6, 2) := by decide +kernel
theorem dX6_split_8 : decode cX6_split 8 = .ok (.bipush 6, 2) := by decide +kernel
theorem dX6_split_10 : decode cX6_split 10 = .ok (.if_icmp .ge 42, 3) := by decide +kernel
theorem dX6_split_13 : decode cX6_split 13 = .ok (.lload 4, 2) := by decide +kernel
theorem dX6_split_15 : decode cX6_split 15 = .ok (.aload_n 0, 1) := by decide +kernel
theorem dX6_split_16 : decode cX6_split 16 = .ok (.iload 6, 2) := by decide +kernel
theorem dX6_split_18 : decode cX6_split 18 = .ok (.invokevirtual 91, 3) := by decide +kernel
theorem dX6_split_21 : decode cX6_split 21 = .ok (.ifCond .eq 21, 3) := by decide +kernel
theorem dX6_split_24 : decode cX6_split 24 = .ok (.iload_n 3, 1) := by decide +kernel
theorem dX6_split_25 : decode cX6_split 25 = .ok (.ifCond .eq 7, 3) := by decide +kernel
theorem dX6_split_28 : decode cX6_split 28 = .ok (.lconst 1, 1) := by decide +kernel
theorem dX6_split_29 : decode cX6_split 29 = .ok (.goto 14, 3) := by decide +kernel
theorem dX6_split_32 : decode cX6_split 32 = .ok (.aload_n 0, 1) := by decide +kernel
theorem dX6_split_33 : decode cX6_split 33 = .ok (.getfield 22, 3) := by decide +kernel
theorem dX6_split_36 : decode cX6_split 36 = .ok (.iload 6, 2) := by decide +kernel
theorem dX6_split_38 : decode cX6_split 38 = .ok (.laload, 1) := by decide +kernel
theorem dX6_split_39 : decode cX6_split 39 = .ok (.goto 4, 3) := by decide +kernel
theorem dX6_split_42 : decode cX6_split 42 = .ok (.lconst 0, 1) := by decide +kernel
theorem dX6_split_43 : decode cX6_split 43 = .ok (.ladd, 1) := by decide +kernel
theorem dX6_split_44 : decode cX6_split 44 = .ok (.lstore 4, 2) := by decide +kernel
theorem dX6_split_46 : decode cX6_split 46 = .ok (.iinc 6 1, 3) := by decide +kernel
theorem dX6_split_49 : decode cX6_split 49 = .ok (.goto (-43), 3) := by decide +kernel
theorem dX6_split_52 : decode cX6_split 52 = .ok (.lload_n 1, 1) := by decide +kernel
theorem dX6_split_53 : decode cX6_split 53 = .ok (.lstore 6, 2) := by decide +kernel
theorem dX6_split_55 : decode cX6_split 55 = .ok (.iconst 0, 1) := by decide +kernel
theorem dX6_split_56 : decode cX6_split 56 = .ok (.istore 8, 2) := by decide +kernel
theorem dX6_split_58 : decode cX6_split 58 = .ok (.iload 8, 2) := by decide +kernel
theorem dX6_split_60 : decode cX6_split 60 = .ok (.bipush 6, 2) := by decide +kernel
theorem dX6_split_62 : decode cX6_split 62 = .ok (.if_icmp .ge 87, 3) := by decide +kernel
theorem dX6_split_65 : decode cX6_split 65 = .ok (.aload_n 0, 1) := by decide +kernel
theorem dX6_split_66 : decode cX6_split 66 = .ok (.iload 8, 2) := by decide +kernel
theorem dX6_split_68 : decode cX6_split 68 = .ok (.invokevirtual 91, 3) := by decide +kernel
theorem dX6_split_71 : decode cX6_split 71 = .ok (.ifCond .eq 21, 3) := by decide +kernel
theorem dX6_split_74 : decode cX6_split 74 = .ok (.iload_n 3, 1) := by decide +kernel
theorem dX6_split_75 : decode cX6_split 75 = .ok (.ifCond .eq 7, 3) := by decide +kernel
theorem dX6_split_78 : decode cX6_split 78 = .ok (.lconst 1, 1) := by decide +kernel
theorem dX6_split_79 : decode cX6_split 79 = .ok (.goto 14, 3) := by decide +kernel
theorem dX6_split_82 : decode cX6_split 82 = .ok (.aload_n 0, 1) := by decide +kernel
theorem dX6_split_83 : decode cX6_split 83 = .ok (.getfield 22, 3) := by decide +kernel
theorem dX6_split_86 : decode cX6_split 86 = .ok (.iload 8, 2) := by decide +kernel
theorem dX6_split_88 : decode cX6_split 88 = .ok (.laload, 1) := by decide +kernel
theorem dX6_split_89 : decode cX6_split 89 = .ok (.goto 4, 3) := by decide +kernel
theorem dX6_split_92 : decode cX6_split 92 = .ok (.lconst 0, 1) := by decide +kernel
theorem dX6_split_93 : decode cX6_split 93 = .ok (.lstore 9, 2) := by decide +kernel
theorem dX6_split_95 : decode cX6_split 95 = .ok (.aload_n 0, 1) := by decide +kernel
theorem dX6_split_96 : decode cX6_split 96 = .ok (.getfield 69, 3) := by decide +kernel
theorem dX6_split_99 : decode cX6_split 99 = .ok (.iload 8, 2) := by decide +kernel
theorem dX6_split_101 : decode cX6_split 101 = .ok (.lload_n 1, 1) := by decide +kernel
theorem dX6_split_102 : decode cX6_split 102 = .ok (.lload 9, 2) := by decide +kernel
theorem dX6_split_104 : decode cX6_split 104 = .ok (.lmul, 1) := by decide +kernel
theorem dX6_split_105 : decode cX6_split 105 = .ok (.lload 4, 2) := by decide +kernel
theorem dX6_split_107 : decode cX6_split 107 = .ok (.ldiv, 1) := by decide +kernel
theorem dX6_split_108 : decode cX6_split 108 = .ok (.lastore, 1) := by decide +kernel
theorem dX6_split_109 : decode cX6_split 109 = .ok (.aload_n 0, 1) := by decide +kernel
theorem dX6_split_110 : decode cX6_split 110 = .ok (.getfield 72, 3) := by decide +kernel
theorem dX6_split_113 : decode cX6_split 113 = .ok (.iload 8, 2) := by decide +kernel
theorem dX6_split_115 : decode cX6_split 115 = .ok (.lload_n 1, 1) := by decide +kernel
theorem dX6_split_116 : decode cX6_split 116 = .ok (.lload 9, 2) := by decide +kernel
theorem dX6_split_118 : decode cX6_split 118 = .ok (.lmul, 1) := by decide +kernel
theorem dX6_split_119 : decode cX6_split 119 = .ok (.lload 4, 2) := by decide +kernel
theorem dX6_split_121 : decode cX6_split 121 = .ok (.lrem, 1) := by decide +kernel
theorem dX6_split_122 : decode cX6_split 122 = .ok (.lastore, 1) := by decide +kernel
theorem dX6_split_123 : decode cX6_split 123 = .ok (.aload_n 0, 1) := by decide +kernel
theorem dX6_split_124 : decode cX6_split 124 = .ok (.getfield 75, 3) := by decide +kernel
theorem dX6_split_127 : decode cX6_split 127 = .ok (.iload 8, 2) := by decide +kernel
theorem dX6_split_129 : decode cX6_split 129 = .ok (.iconst 0, 1) := by decide +kernel
theorem dX6_split_130 : decode cX6_split 130 = .ok (.bastore, 1) := by decide +kernel
theorem dX6_split_131 : decode cX6_split 131 = .ok (.lload 6, 2) := by decide +kernel
theorem dX6_split_133 : decode cX6_split 133 = .ok (.aload_n 0, 1) := by decide +kernel
theorem dX6_split_134 : decode cX6_split 134 = .ok (.getfield 69, 3) := by decide +kernel
theorem dX6_split_137 : decode cX6_split 137 = .ok (.iload 8, 2) := by decide +kernel
theorem dX6_split_139 : decode cX6_split 139 = .ok (.laload, 1) := by decide +kernel
theorem dX6_split_140 : decode cX6_split 140 = .ok (.lsub, 1) := by decide +kernel
theorem dX6_split_141 : decode cX6_split 141 = .ok (.lstore 6, 2) := by decide +kernel
theorem dX6_split_143 : decode cX6_split 143 = .ok (.iinc 8 1, 3) := by decide +kernel
theorem dX6_split_146 : decode cX6_split 146 = .ok (.goto (-88), 3) := by decide +kernel
theorem dX6_split_149 : decode cX6_split 149 = .ok (.lload 6, 2) := by decide +kernel
theorem dX6_split_151 : decode cX6_split 151 = .ok (.lconst 0, 1) := by decide +kernel
theorem dX6_split_152 : decode cX6_split 152 = .ok (.lcmp, 1) := by decide +kernel
theorem dX6_split_153 : decode cX6_split 153 = .ok (.ifCond .le 88, 3) := by decide +kernel
theorem dX6_split_156 : decode cX6_split 156 = .ok (.iconst (-1), 1) := by decide +kernel
theorem dX6_split_157 : decode cX6_split 157 = .ok (.istore 8, 2) := by decide +kernel
theorem dX6_split_159 : decode cX6_split 159 = .ok (.iconst 0, 1) := by decide +kernel
theorem dX6_split_160 : decode cX6_split 160 = .ok (.istore 9, 2) := by decide +kernel
theorem dX6_split_162 : decode cX6_split 162 = .ok (.iload 9, 2) := by decide +kernel
theorem dX6_split_164 : decode cX6_split 164 = .ok (.bipush 6, 2) := by decide +kernel
theorem dX6_split_166 : decode cX6_split 166 = .ok (.if_icmp .ge 47, 3) := by decide +kernel
theorem dX6_split_169 : decode cX6_split 169 = .ok (.aload_n 0, 1) := by decide +kernel
theorem dX6_split_170 : decode cX6_split 170 = .ok (.getfield 75, 3) := by decide +kernel
theorem dX6_split_173 : decode cX6_split 173 = .ok (.iload 9, 2) := by decide +kernel
theorem dX6_split_175 : decode cX6_split 175 = .ok (.baload, 1) := by decide +kernel
theorem dX6_split_176 : decode cX6_split 176 = .ok (.ifCond .ne 31, 3) := by decide +kernel
theorem dX6_split_179 : decode cX6_split 179 = .ok (.iload 8, 2) := by decide +kernel
theorem dX6_split_181 : decode cX6_split 181 = .ok (.iconst (-1), 1) := by decide +kernel
theorem dX6_split_182 : decode cX6_split 182 = .ok (.if_icmp .eq 21, 3) := by decide +kernel
theorem dX6_split_185 : decode cX6_split 185 = .ok (.aload_n 0, 1) := by decide +kernel
theorem dX6_split_186 : decode cX6_split 186 = .ok (.getfield 72, 3) := by decide +kernel
theorem dX6_split_189 : decode cX6_split 189 = .ok (.iload 9, 2) := by decide +kernel
theorem dX6_split_191 : decode cX6_split 191 = .ok (.laload, 1) := by decide +kernel
theorem dX6_split_192 : decode cX6_split 192 = .ok (.aload_n 0, 1) := by decide +kernel
theorem dX6_split_193 : decode cX6_split 193 = .ok (.getfield 72, 3) := by decide +kernel
theorem dX6_split_196 : decode cX6_split 196 = .ok (.iload 8, 2) := by decide +kernel
theorem dX6_split_198 : decode cX6_split 198 = .ok (.laload, 1) := by decide +kernel
theorem dX6_split_199 : decode cX6_split 199 = .ok (.lcmp, 1) := by decide +kernel
theorem dX6_split_200 : decode cX6_split 200 = .ok (.ifCond .le 7, 3) := by decide +kernel
theorem dX6_split_203 : decode cX6_split 203 = .ok (.iload 9, 2) := by decide +kernel
theorem dX6_split_205 : decode cX6_split 205 = .ok (.istore 8, 2) := by decide +kernel
theorem dX6_split_207 : decode cX6_split 207 = .ok (.iinc 9 1, 3) := by decide +kernel
theorem dX6_split_210 : decode cX6_split 210 = .ok (.goto (-48), 3) := by decide +kernel
theorem dX6_split_213 : decode cX6_split 213 = .ok (.aload_n 0, 1) := by decide +kernel
theorem dX6_split_214 : decode cX6_split 214 = .ok (.getfield 75, 3) := by decide +kernel
theorem dX6_split_217 : decode cX6_split 217 = .ok (.iload 8, 2) := by decide +kernel
theorem dX6_split_219 : decode cX6_split 219 = .ok (.iconst 1, 1) := by decide +kernel
theorem dX6_split_220 : decode cX6_split 220 = .ok (.bastore, 1) := by decide +kernel
theorem dX6_split_221 : decode cX6_split 221 = .ok (.aload_n 0, 1) := by decide +kernel
theorem dX6_split_222 : decode cX6_split 222 = .ok (.getfield 69, 3) := by decide +kernel
theorem dX6_split_225 : decode cX6_split 225 = .ok (.iload 8, 2) := by decide +kernel
theorem dX6_split_227 : decode cX6_split 227 = .ok (.dup2, 1) := by decide +kernel
theorem dX6_split_228 : decode cX6_split 228 = .ok (.laload, 1) := by decide +kernel
theorem dX6_split_229 : decode cX6_split 229 = .ok (.lconst 1, 1) := by decide +kernel
theorem dX6_split_230 : decode cX6_split 230 = .ok (.ladd, 1) := by decide +kernel
theorem dX6_split_231 : decode cX6_split 231 = .ok (.lastore, 1) := by decide +kernel
theorem dX6_split_232 : decode cX6_split 232 = .ok (.lload 6, 2) := by decide +kernel
theorem dX6_split_234 : decode cX6_split 234 = .ok (.lconst 1, 1) := by decide +kernel
theorem dX6_split_235 : decode cX6_split 235 = .ok (.lsub, 1) := by decide +kernel
theorem dX6_split_236 : decode cX6_split 236 = .ok (.lstore 6, 2) := by decide +kernel
theorem dX6_split_238 : decode cX6_split 238 = .ok (.goto (-89), 3) := by decide +kernel
theorem dX6_split_241 : decode cX6_split 241 = .ok (.return_, 1) := by decide +kernel

set_option maxHeartbeats 4000000 in
set_option maxRecDepth 100000 in
theorem kX6_split (l : Launch) (dC : Nat → ClassId) (dI : Nat → Nat → Nat) (ca : Nat → ClassId) (ad : Nat → Nat) (S : sSt) (room : Int64) (b0 : Bool) (hne : ¬ mall S b0 6 = 0) (hok0 : mspOk 6 (mspl1 S room (mall S b0 6) b0 6)) : ct_V l yX6_split (Cond.code yX6_split cX6_split 11 none :: wa_T) ({ frames := 2, cells := 0, slots := 0, locals := 46 } : Room) (dC, dI) vwCl (tyl ca) (wq ca ad) S [.ref (ad 0), .long room, .int (bI b0)] (fun S2 => S2 = msplF S room b0) := by
  refine ct_ofV (by decide) (Nat.le_of_ble_eq_true rfl) ?_
  intro p e s m below meth c A ls hx hb hr hml hts hown hlocks hK hA hw hl
  have hl : lv_has ls 11 [(0, .ref (ad 0)), (1, .long room), (3, .int (bI b0))] := hl
  refine lv_lconst (v := 0) hx hb dX6_split_0 (by decide) ?_
  refine lv_lstore (lv' := [(4, .long 0), (0, .ref (ad 0)), (1, .long room), (3, .int (bI b0))]) hx hb dX6_split_1 hl (by decide) rfl (fun ls hl => ?_)
  refine lv_iconst (v := nI 0) hx hb dX6_split_3 (by decide) ?_
  refine lv_istore (lv' := [(6, .int (nI 0)), (4, .long 0), (0, .ref (ad 0)), (1, .long room), (3, .int (bI b0))]) hx hb dX6_split_4 hl (by decide) rfl (fun ls hl => ?_)
  have lp_6 : ∀ (n : Nat) (i : Nat), i ≤ 6 → 7 ≤ i + n → ∀ (H : Heap) (locs : List Loc) (ls : Array Slot), wo_w (dC, dI) vwCl A s.heap (wq ca ad S) H locs → lv_has ls 11 [(0, .ref (ad 0)), (1, .long room), (3, .int (bI b0)), (4, .long (mall S b0 i)), (6, .int (nI i))] → W p l e ({ frames := 2, cells := 0, slots := 0, locals := 46 } : Room) s m ([.ref (ad 0), .long room, .int (bI b0)] : List Value).toArray below meth c H locs 0 0 (MQ below (va_Qv (fun S2 => S2 = msplF S room b0) (ct_B (dC, dI) vwCl (tyl ca) (wq ca ad) A) A) ([.ref (ad 0), .long room, .int (bI b0)] : List Value).toArray s 0 0 A) (F0 m 6 ls []) := by
    intro n
    induction n with
    | zero =>
      intro i hi hn
      exfalso
      omega
    | succ n ih_6 =>
      intro i hi hn H locs ls hw hl
      refine lv_iload hx hb dX6_split_6 (lv_at hl 4 rfl) ?_
      refine lv_bipush (v := nI 6) hx hb dX6_split_8 (by decide) ?_
      refine lv_icmp_ge (tgt := 52) hx hb dX6_split_10 (by decide) (fun c_1 => ?_) (fun c_1 => ?_)
      · skip
        have c_1 : 6 ≤ i := (nI_leI (a := 6) (b := i) (by omega) (by omega)).mp c_1
        obtain rfl : 6 = i := by omega
        refine lv_lload_n hx hb dX6_split_52 rfl (lv_at hl 1 rfl) ?_
        refine lv_lstore (lv' := [(6, .long room), (0, .ref (ad 0)), (1, .long room), (3, .int (bI b0)), (4, .long (mall S b0 6))]) hx hb dX6_split_53 hl (by decide) rfl (fun ls hl => ?_)
        refine lv_iconst (v := nI 0) hx hb dX6_split_55 (by decide) ?_
        refine lv_istore (lv' := [(8, .int (nI 0)), (6, .long room), (0, .ref (ad 0)), (1, .long room), (3, .int (bI b0)), (4, .long (mall S b0 6))]) hx hb dX6_split_56 hl (by decide) rfl (fun ls hl => ?_)
        have lp_58 : ∀ (n : Nat) (i : Nat), i ≤ 6 → 7 ≤ i + n → ∀ (H : Heap) (locs : List Loc) (ls : Array Slot), wo_w (dC, dI) vwCl A s.heap (wq ca ad ((mspl1 S room (mall S b0 6) b0 i).1)) H locs → lv_has ls 11 [(0, .ref (ad 0)), (1, .long room), (3, .int (bI b0)), (4, .long (mall S b0 6)), (6, .long ((mspl1 S room (mall S b0 6) b0 i).2)), (8, .int (nI i))] → W p l e ({ frames := 2, cells := 0, slots := 0, locals := 46 } : Room) s m ([.ref (ad 0), .long room, .int (bI b0)] : List Value).toArray below meth c H locs 0 0 (MQ below (va_Qv (fun S2 => S2 = msplF S room b0) (ct_B (dC, dI) vwCl (tyl ca) (wq ca ad) A) A) ([.ref (ad 0), .long room, .int (bI b0)] : List Value).toArray s 0 0 A) (F0 m 58 ls []) := by
          intro n
          induction n with
          | zero =>
            intro i hi hn
            exfalso
            omega
          | succ n ih_58 =>
            intro i hi hn H locs ls hw hl
            refine lv_iload hx hb dX6_split_58 (lv_at hl 5 rfl) ?_
            refine lv_bipush (v := nI 6) hx hb dX6_split_60 (by decide) ?_
            refine lv_icmp_ge (tgt := 149) hx hb dX6_split_62 (by decide) (fun c_2 => ?_) (fun c_2 => ?_)
            · skip
              have c_2 : 6 ≤ i := (nI_leI (a := 6) (b := i) (by omega) (by omega)).mp c_2
              obtain rfl : 6 = i := by omega
              have lp_149 : ∀ (n : Nat) (i : Nat) (X : sSt × Int64), i ≤ 6 → 7 ≤ i + n → mspOk (6 - i) X → mspl2 (6 - i) X = mspl2 6 (mspl1 S room (mall S b0 6) b0 6) → ∀ (H : Heap) (locs : List Loc) (ls : Array Slot), wo_w (dC, dI) vwCl A s.heap (wq ca ad X.1) H locs → lv_has ls 11 [(0, .ref (ad 0)), (6, .long X.2)] → W p l e ({ frames := 2, cells := 0, slots := 0, locals := 46 } : Room) s m ([.ref (ad 0), .long room, .int (bI b0)] : List Value).toArray below meth c H locs 0 0 (MQ below (va_Qv (fun S2 => S2 = msplF S room b0) (ct_B (dC, dI) vwCl (tyl ca) (wq ca ad) A) A) ([.ref (ad 0), .long room, .int (bI b0)] : List Value).toArray s 0 0 A) (F0 m 149 ls []) := by
                intro n
                induction n with
                | zero =>
                  intro i X hi hn hok hrem
                  exfalso
                  omega
                | succ n ih_149 =>
                  intro i X hi hn hok hrem H locs ls hw hl
                  refine lv_lload hx hb dX6_split_149 (lv_at hl 1 rfl) ?_
                  refine lv_lconst (v := 0) hx hb dX6_split_151 (by decide) ?_
                  refine lc_le (tgt := 241) hx hb dX6_split_152 dX6_split_153 (by decide) (fun c_3 => ?_) (fun c_3 => ?_)
                  · skip
                    have hX := mspl2_stop hrem c_3
                    exact ct_vret (S := X.1) hx hb hr hlocks hK hw (by rw [msplF, ← hX]) dX6_split_241
                  · skip
                    have hpos := c_3
                    have hi6 : i < 6 := mspOk_lt hok hpos
                    have e66 : 6 - i = (6 - (i + 1)) + 1 := by omega
                    rw [e66] at hok
                    refine lv_iconst (v := (-1)) hx hb dX6_split_156 (by decide) ?_
                    refine lv_istore (lv' := [(8, .int (-1)), (0, .ref (ad 0)), (6, .long X.2)]) hx hb dX6_split_157 hl (by decide) rfl (fun ls hl => ?_)
                    refine lv_iconst (v := nI 0) hx hb dX6_split_159 (by decide) ?_
                    refine lv_istore (lv' := [(9, .int (nI 0)), (8, .int (-1)), (0, .ref (ad 0)), (6, .long X.2)]) hx hb dX6_split_160 hl (by decide) rfl (fun ls hl => ?_)
                    have lp_162 : ∀ (n : Nat) (j : Nat), j ≤ 6 → 7 ≤ j + n → ∀ (H : Heap) (locs : List Loc) (ls : Array Slot), wo_w (dC, dI) vwCl A s.heap (wq ca ad X.1) H locs → lv_has ls 11 [(0, .ref (ad 0)), (6, .long X.2), (8, .int (mbest X.1 j)), (9, .int (nI j))] → W p l e ({ frames := 2, cells := 0, slots := 0, locals := 46 } : Room) s m ([.ref (ad 0), .long room, .int (bI b0)] : List Value).toArray below meth c H locs 0 0 (MQ below (va_Qv (fun S2 => S2 = msplF S room b0) (ct_B (dC, dI) vwCl (tyl ca) (wq ca ad) A) A) ([.ref (ad 0), .long room, .int (bI b0)] : List Value).toArray s 0 0 A) (F0 m 162 ls []) := by
                      intro n
                      induction n with
                      | zero =>
                        intro j hj hn
                        exfalso
                        omega
                      | succ n ih_162 =>
                        intro j hj hn H locs ls hw hl
                        refine lv_iload hx hb dX6_split_162 (lv_at hl 3 rfl) ?_
                        refine lv_bipush (v := nI 6) hx hb dX6_split_164 (by decide) ?_
                        refine lv_icmp_ge (tgt := 213) hx hb dX6_split_166 (by decide) (fun c_4 => ?_) (fun c_4 => ?_)
                        · skip
                          have c_4 : 6 ≤ j := (nI_leI (a := 6) (b := j) (by omega) (by omega)).mp c_4
                          obtain rfl : 6 = j := by omega
                          obtain ⟨q9, hq9, eq9⟩ := (mbest_n X.1 6).resolve_left (hok.resolve_left hpos).1
                          rw [eq9] at hl
                          have ec_q9 := nI_clamp (n := q9) (by omega)
                          refine lv_aload_n hx hb dX6_split_213 rfl (lv_at hl 0 rfl) ?_
                          refine wo_get hx hb hts inX6 hown hK hw 0 rfl rfl 26 (by decide) (hts _ wd_591) (fun _ h9 => h9) rfl dX6_split_214 ?_
                          refine lv_iload hx hb dX6_split_217 (lv_at hl 2 rfl) ?_
                          refine lv_iconst (v := nI 1) hx hb dX6_split_219 (by decide) ?_
                          refine wo_zast hx hb hK hw 22 2 rfl rfl q9 rfl (by first | assumption | omega) (by decide) (by first | decide | assumption | exact nb_v _) (sm_22 ca ad X.1 q9 (nI 1)) dX6_split_220 (fun H locs hw => ?_)
                          refine lv_aload_n hx hb dX6_split_221 rfl (lv_at hl 0 rfl) ?_
                          refine wo_get hx hb hts inX6 hown hK hw 0 rfl rfl 24 (by decide) (hts _ wd_589) (fun _ h9 => h9) rfl dX6_split_222 ?_
                          refine lv_iload hx hb dX6_split_225 (lv_at hl 2 rfl) ?_
                          refine lv_dup2_11 hx hb dX6_split_227 rfl rfl ?_
                          refine wo_lald hx hb hK hw 20 1 rfl rfl q9 rfl (by first | assumption | omega) (by decide) dX6_split_228 ?_
                          refine lv_lconst (v := 1) hx hb dX6_split_229 (by decide) ?_
                          refine lv_ladd hx hb dX6_split_230 ?_
                          refine wo_last hx hb hK hw 20 1 rfl rfl q9 rfl (by first | assumption | omega) (by decide) (sm_20 ca ad (sI X.1 22 q9 (nI 1)) q9 (((sI X.1 22 q9 (nI 1)).2 20 q9) + 1)) dX6_split_231 (fun H locs hw => ?_)
                          refine lv_lload hx hb dX6_split_232 (lv_at hl 1 rfl) ?_
                          refine lv_lconst (v := 1) hx hb dX6_split_234 (by decide) ?_
                          refine lv_lsub hx hb dX6_split_235 ?_
                          refine lv_lstore (lv' := [(6, .long (X.2 - 1)), (0, .ref (ad 0)), (8, .int (nI q9)), (9, .int (nI 6))]) hx hb dX6_split_236 hl (by decide) rfl (fun ls hl => ?_)
                          refine lv_goto (tgt := 149) hx hb dX6_split_238 (by decide) ?_
                          have e9 : X.2 - 1 = (mp2 X).2 := rfl
                          try rw [e9] at hl
                          have e9 : sL (sI X.1 22 q9 (nI 1)) 20 q9 (((sI X.1 22 q9 (nI 1)).2 20 q9) + 1) = (mp2 X).1 := by simp only [mp2, eq9, ec_q9]
                          try rw [e9] at hw
                          exact ih_149 (i + 1) (mp2 X) (by omega) (by omega) (hok.resolve_left hpos).2 (mspl2_step hrem (by omega) hpos) _ _ _ hw (lv_sub hl [1, 0] rfl)
                        · skip
                          have c_4 : ¬ (6 ≤ j) := fun h9 => c_4 ((nI_leI (a := 6) (b := j) (by omega) (by omega)).mpr h9)
                          refine lv_aload_n hx hb dX6_split_169 rfl (lv_at hl 0 rfl) ?_
                          refine wo_get hx hb hts inX6 hown hK hw 0 rfl rfl 26 (by decide) (hts _ wd_591) (fun _ h9 => h9) rfl dX6_split_170 ?_
                          refine lv_iload hx hb dX6_split_173 (lv_at hl 3 rfl) ?_
                          refine wo_zald hx hb hK hw 22 2 rfl rfl j rfl (by first | assumption | omega) (by decide) dX6_split_175 ?_
                          refine lv_if_ne (tgt := 207) hx hb dX6_split_176 (by decide) (fun c_5 => ?_) (fun c_5 => ?_)
                          · skip
                            refine lv_iinc (v := nI (j + 1)) (lv' := [(9, .int (nI (j + 1))), (0, .ref (ad 0)), (6, .long X.2), (8, .int (mbest X.1 j))]) hx hb dX6_split_207 hl (k := 3) rfl (nI_inc _) (by decide) rfl (fun ls hl => ?_)
                            refine lv_goto (tgt := 162) hx hb dX6_split_210 (by decide) ?_
                            have e9 : mbest X.1 j = mbest X.1 (j + 1) := by first | rfl | (simp only [mbest, c_4, c_5, not_true_eq_false, not_false_eq_true, decide_true, decide_false, Bool.not_true, Bool.not_false, Bool.true_and, Bool.and_true, Bool.false_and, Bool.and_false, Bool.or_true, Bool.true_or, Bool.or_false, Bool.false_or, Bool.false_eq_true, Bool.true_eq_false, if_true, if_false, ↓reduceIte]; done)
                            try rw [e9] at hl
                            exact ih_162 (j + 1) (by omega) (by omega) _ _ _ hw (lv_sub hl [1, 2, 3, 0] rfl)
                          · skip
                            refine lv_iload hx hb dX6_split_179 (lv_at hl 2 rfl) ?_
                            refine lv_iconst (v := (-1)) hx hb dX6_split_181 (by decide) ?_
                            refine lv_icmp_eq (tgt := 203) hx hb dX6_split_182 (by decide) (fun c_6 => ?_) (fun c_6 => ?_)
                            · skip
                              refine lv_iload hx hb dX6_split_203 (lv_at hl 3 rfl) ?_
                              refine lv_istore (lv' := [(8, .int (nI j)), (0, .ref (ad 0)), (6, .long X.2), (9, .int (nI j))]) hx hb dX6_split_205 hl (by decide) rfl (fun ls hl => ?_)
                              refine lv_iinc (v := nI (j + 1)) (lv' := [(9, .int (nI (j + 1))), (8, .int (nI j)), (0, .ref (ad 0)), (6, .long X.2)]) hx hb dX6_split_207 hl (k := 3) rfl (nI_inc _) (by decide) rfl (fun ls hl => ?_)
                              refine lv_goto (tgt := 162) hx hb dX6_split_210 (by decide) ?_
                              have e9 : nI j = mbest X.1 (j + 1) := by first | rfl | (simp only [mbest, c_4, c_5, c_6, not_true_eq_false, not_false_eq_true, decide_true, decide_false, Bool.not_true, Bool.not_false, Bool.true_and, Bool.and_true, Bool.false_and, Bool.and_false, Bool.or_true, Bool.true_or, Bool.or_false, Bool.false_or, Bool.false_eq_true, Bool.true_eq_false, if_true, if_false, ↓reduceIte]; done)
                              try rw [e9] at hl
                              exact ih_162 (j + 1) (by omega) (by omega) _ _ _ hw (lv_sub hl [2, 3, 1, 0] rfl)
                            · skip
                              obtain ⟨q9, hq9, eq9⟩ := (mbest_n X.1 j).resolve_left c_6
                              have ec_q9 := nI_clamp (n := q9) (by omega)
                              rw [eq9] at hl
                              have nq9 : ¬ nI q9 = (-1) := eq9 ▸ c_6
                              refine lv_aload_n hx hb dX6_split_185 rfl (lv_at hl 0 rfl) ?_
                              refine wo_get hx hb hts inX6 hown hK hw 0 rfl rfl 25 (by decide) (hts _ wd_590) (fun _ h9 => h9) rfl dX6_split_186 ?_
                              refine lv_iload hx hb dX6_split_189 (lv_at hl 3 rfl) ?_
                              refine wo_lald hx hb hK hw 21 1 rfl rfl j rfl (by first | assumption | omega) (by decide) dX6_split_191 ?_
                              refine lv_aload_n hx hb dX6_split_192 rfl (lv_at hl 0 rfl) ?_
                              refine wo_get hx hb hts inX6 hown hK hw 0 rfl rfl 25 (by decide) (hts _ wd_590) (fun _ h9 => h9) rfl dX6_split_193 ?_
                              refine lv_iload hx hb dX6_split_196 (lv_at hl 2 rfl) ?_
                              refine wo_lald hx hb hK hw 21 1 rfl rfl q9 rfl (by first | assumption | omega) (by decide) dX6_split_198 ?_
                              refine lc_le (tgt := 207) hx hb dX6_split_199 dX6_split_200 (by decide) (fun c_7 => ?_) (fun c_7 => ?_)
                              · skip
                                refine lv_iinc (v := nI (j + 1)) (lv' := [(9, .int (nI (j + 1))), (0, .ref (ad 0)), (6, .long X.2), (8, .int (nI q9))]) hx hb dX6_split_207 hl (k := 3) rfl (nI_inc _) (by decide) rfl (fun ls hl => ?_)
                                refine lv_goto (tgt := 162) hx hb dX6_split_210 (by decide) ?_
                                have e9 : nI q9 = mbest X.1 (j + 1) := by first | rfl | (simp only [mbest, c_4, c_5, eq9, nq9, ec_q9, c_7, not_true_eq_false, not_false_eq_true, decide_true, decide_false, Bool.not_true, Bool.not_false, Bool.true_and, Bool.and_true, Bool.false_and, Bool.and_false, Bool.or_true, Bool.true_or, Bool.or_false, Bool.false_or, Bool.false_eq_true, Bool.true_eq_false, if_true, if_false, ↓reduceIte]; done)
                                try rw [e9] at hl
                                exact ih_162 (j + 1) (by omega) (by omega) _ _ _ hw (lv_sub hl [1, 2, 3, 0] rfl)
                              · skip
                                refine lv_iload hx hb dX6_split_203 (lv_at hl 3 rfl) ?_
                                refine lv_istore (lv' := [(8, .int (nI j)), (0, .ref (ad 0)), (6, .long X.2), (9, .int (nI j))]) hx hb dX6_split_205 hl (by decide) rfl (fun ls hl => ?_)
                                refine lv_iinc (v := nI (j + 1)) (lv' := [(9, .int (nI (j + 1))), (8, .int (nI j)), (0, .ref (ad 0)), (6, .long X.2)]) hx hb dX6_split_207 hl (k := 3) rfl (nI_inc _) (by decide) rfl (fun ls hl => ?_)
                                refine lv_goto (tgt := 162) hx hb dX6_split_210 (by decide) ?_
                                have e9 : nI j = mbest X.1 (j + 1) := by first | rfl | (simp only [mbest, c_4, c_5, eq9, nq9, ec_q9, c_7, not_true_eq_false, not_false_eq_true, decide_true, decide_false, Bool.not_true, Bool.not_false, Bool.true_and, Bool.and_true, Bool.false_and, Bool.and_false, Bool.or_true, Bool.true_or, Bool.or_false, Bool.false_or, Bool.false_eq_true, Bool.true_eq_false, if_true, if_false, ↓reduceIte]; done)
                                try rw [e9] at hl
                                exact ih_162 (j + 1) (by omega) (by omega) _ _ _ hw (lv_sub hl [2, 3, 1, 0] rfl)
                    have e9 : (-1) = mbest X.1 0 := by first | rfl | (simp only [mbest, c_3, not_true_eq_false, not_false_eq_true, decide_true, decide_false, Bool.not_true, Bool.not_false, Bool.true_and, Bool.and_true, Bool.false_and, Bool.and_false, Bool.or_true, Bool.true_or, Bool.or_false, Bool.false_or, Bool.false_eq_true, Bool.true_eq_false, if_true, if_false, ↓reduceIte]; done)
                    try rw [e9] at hl
                    exact lp_162 7 0 (by omega) (by omega) _ _ _ hw (lv_sub hl [2, 3, 1, 0] rfl)
              exact lp_149 7 0 (mspl1 S room (mall S b0 6) b0 6) (by omega) (by omega) hok0 rfl _ _ _ hw (lv_sub hl [0, 4] rfl)
            · skip
              have c_2 : ¬ (6 ≤ i) := fun h9 => c_2 ((nI_leI (a := 6) (b := i) (by omega) (by omega)).mpr h9)
              refine lv_aload_n hx hb dX6_split_65 rfl (lv_at hl 0 rfl) ?_
              refine lv_iload hx hb dX6_split_66 (lv_at hl 5 rfl) ?_
              refine wo_vI (As := [.int (nI i)]) (rest := []) (kX6_isWell l dC dI ca ad ((mspl1 S room (mall S b0 6) b0 i).1) (nI i)) ⟨hx, hb, hml, hown, hts⟩ (cwV 1 hts (wa_gV wd_655 wd_657 ws_13 wd_8 wd_658) rfl rfl rfl (by decide +kernel) ⟨Nat.le_of_ble_eq_true rfl, Nat.le_of_ble_eq_true rfl⟩) hK hw hA 0 rfl rfl rfl rfl hl.1 rfl (Nat.le_of_ble_eq_true rfl) dX6_split_68 ⟨Nat.zero_le _, Nat.zero_le _⟩ (fun r_8 S_8 H locs hp_8 hw => ?_)
              have e9 := hp_8.1.symm
              subst e9
              have e9 := hp_8.2.symm
              subst e9
              refine lv_if_eq (tgt := 92) hx hb dX6_split_71 (by decide) (fun c_9 => ?_) (fun c_9 => ?_)
              · skip
                have c_9 : mwl ((mspl1 S room (mall S b0 6) b0 i).1) (nI i) = false := nb_0 c_9
                have ho : mown (mspl1 S room (mall S b0 6) b0 i).1 b0 i = 0 := by unfold mown; rw [if_pos c_9]
                refine lv_lconst (v := 0) hx hb dX6_split_92 (by decide) ?_
                refine lv_lstore (lv' := [(9, .long 0), (0, .ref (ad 0)), (1, .long room), (3, .int (bI b0)), (4, .long (mall S b0 6)), (6, .long ((mspl1 S room (mall S b0 6) b0 i).2)), (8, .int (nI i))]) hx hb dX6_split_93 hl (by decide) rfl (fun ls hl => ?_)
                refine lv_aload_n hx hb dX6_split_95 rfl (lv_at hl 1 rfl) ?_
                refine wo_get hx hb hts inX6 hown hK hw 0 rfl rfl 24 (by decide) (hts _ wd_589) (fun _ h9 => h9) rfl dX6_split_96 ?_
                refine lv_iload hx hb dX6_split_99 (lv_at hl 6 rfl) ?_
                refine lv_lload_n hx hb dX6_split_101 rfl (lv_at hl 2 rfl) ?_
                refine lv_lload hx hb dX6_split_102 (lv_at hl 0 rfl) ?_
                refine lv_lmul hx hb dX6_split_104 ?_
                refine lv_lload hx hb dX6_split_105 (lv_at hl 4 rfl) ?_
                refine lv_ldiv hx hb dX6_split_107 (by first | assumption | omega) ?_
                refine wo_last hx hb hK hw 20 1 rfl rfl i rfl (by first | assumption | omega) (by decide) (sm_20 ca ad ((mspl1 S room (mall S b0 6) b0 i).1) i ((room * 0) / (mall S b0 6))) dX6_split_108 (fun H locs hw => ?_)
                refine lv_aload_n hx hb dX6_split_109 rfl (lv_at hl 1 rfl) ?_
                refine wo_get hx hb hts inX6 hown hK hw 0 rfl rfl 25 (by decide) (hts _ wd_590) (fun _ h9 => h9) rfl dX6_split_110 ?_
                refine lv_iload hx hb dX6_split_113 (lv_at hl 6 rfl) ?_
                refine lv_lload_n hx hb dX6_split_115 rfl (lv_at hl 2 rfl) ?_
                refine lv_lload hx hb dX6_split_116 (lv_at hl 0 rfl) ?_
                refine lv_lmul hx hb dX6_split_118 ?_
                refine lv_lload hx hb dX6_split_119 (lv_at hl 4 rfl) ?_
                refine lv_lrem hx hb dX6_split_121 (by first | assumption | omega) ?_
                refine wo_last hx hb hK hw 21 1 rfl rfl i rfl (by first | assumption | omega) (by decide) (sm_21 ca ad (sL ((mspl1 S room (mall S b0 6) b0 i).1) 20 i ((room * 0) / (mall S b0 6))) i ((room * 0) - (room * 0) / (mall S b0 6) * (mall S b0 6))) dX6_split_122 (fun H locs hw => ?_)
                refine lv_aload_n hx hb dX6_split_123 rfl (lv_at hl 1 rfl) ?_
                refine wo_get hx hb hts inX6 hown hK hw 0 rfl rfl 26 (by decide) (hts _ wd_591) (fun _ h9 => h9) rfl dX6_split_124 ?_
                refine lv_iload hx hb dX6_split_127 (lv_at hl 6 rfl) ?_
                refine lv_iconst (v := nI 0) hx hb dX6_split_129 (by decide) ?_
                refine wo_zast hx hb hK hw 22 2 rfl rfl i rfl (by first | assumption | omega) (by decide) (by first | decide | assumption | exact nb_v _) (sm_22 ca ad (sL (sL ((mspl1 S room (mall S b0 6) b0 i).1) 20 i ((room * 0) / (mall S b0 6))) 21 i ((room * 0) - (room * 0) / (mall S b0 6) * (mall S b0 6))) i (nI 0)) dX6_split_130 (fun H locs hw => ?_)
                refine lv_lload hx hb dX6_split_131 (lv_at hl 5 rfl) ?_
                refine lv_aload_n hx hb dX6_split_133 rfl (lv_at hl 1 rfl) ?_
                refine wo_get hx hb hts inX6 hown hK hw 0 rfl rfl 24 (by decide) (hts _ wd_589) (fun _ h9 => h9) rfl dX6_split_134 ?_
                refine lv_iload hx hb dX6_split_137 (lv_at hl 6 rfl) ?_
                refine wo_lald hx hb hK hw 20 1 rfl rfl i rfl (by first | assumption | omega) (by decide) dX6_split_139 ?_
                refine lv_lsub hx hb dX6_split_140 ?_
                refine lv_lstore (lv' := [(6, .long (((mspl1 S room (mall S b0 6) b0 i).2) - ((sI (sL (sL ((mspl1 S room (mall S b0 6) b0 i).1) 20 i ((room * 0) / (mall S b0 6))) 21 i ((room * 0) - (room * 0) / (mall S b0 6) * (mall S b0 6))) 22 i (nI 0)).2 20 i))), (9, .long 0), (0, .ref (ad 0)), (1, .long room), (3, .int (bI b0)), (4, .long (mall S b0 6)), (8, .int (nI i))]) hx hb dX6_split_141 hl (by decide) rfl (fun ls hl => ?_)
                refine lv_iinc (v := nI (i + 1)) (lv' := [(8, .int (nI (i + 1))), (6, .long (((mspl1 S room (mall S b0 6) b0 i).2) - ((sI (sL (sL ((mspl1 S room (mall S b0 6) b0 i).1) 20 i ((room * 0) / (mall S b0 6))) 21 i ((room * 0) - (room * 0) / (mall S b0 6) * (mall S b0 6))) 22 i (nI 0)).2 20 i))), (9, .long 0), (0, .ref (ad 0)), (1, .long room), (3, .int (bI b0)), (4, .long (mall S b0 6))]) hx hb dX6_split_143 hl (k := 6) rfl (nI_inc _) (by decide) rfl (fun ls hl => ?_)
                refine lv_goto (tgt := 58) hx hb dX6_split_146 (by decide) ?_
                have e9 : ((mspl1 S room (mall S b0 6) b0 i).2) - ((sI (sL (sL ((mspl1 S room (mall S b0 6) b0 i).1) 20 i ((room * 0) / (mall S b0 6))) 21 i ((room * 0) - (room * 0) / (mall S b0 6) * (mall S b0 6))) 22 i (nI 0)).2 20 i) = (mspl1 S room (mall S b0 6) b0 (i + 1)).2 := by simp only [mspl1, msp1, ho]
                try rw [e9] at hl
                have e9 : sI (sL (sL ((mspl1 S room (mall S b0 6) b0 i).1) 20 i ((room * 0) / (mall S b0 6))) 21 i ((room * 0) - (room * 0) / (mall S b0 6) * (mall S b0 6))) 22 i (nI 0) = (mspl1 S room (mall S b0 6) b0 (i + 1)).1 := by simp only [mspl1, msp1, ho]
                try rw [e9] at hw
                exact ih_58 (i + 1) (by omega) (by omega) _ _ _ hw (lv_sub hl [3, 4, 5, 6, 1, 0] rfl)
              · skip
                have c_9 : mwl ((mspl1 S room (mall S b0 6) b0 i).1) (nI i) = true := nb_1 c_9
                refine lv_iload_n hx hb dX6_split_74 rfl (lv_at hl 2 rfl) ?_
                refine lv_if_eq (tgt := 82) hx hb dX6_split_75 (by decide) (fun c_10 => ?_) (fun c_10 => ?_)
                · skip
                  have c_10 : b0 = false := nb_0 c_10
                  have ho : mown (mspl1 S room (mall S b0 6) b0 i).1 b0 i = (mspl1 S room (mall S b0 6) b0 i).1.2 5 i := by unfold mown; rw [if_neg (by rw [c_9]; decide), if_pos c_10]
                  refine lv_aload_n hx hb dX6_split_82 rfl (lv_at hl 0 rfl) ?_
                  refine wo_get hx hb hts inX6 hown hK hw 0 rfl rfl 6 (by decide) (hts _ wd_571) (fun _ h9 => h9) rfl dX6_split_83 ?_
                  refine lv_iload hx hb dX6_split_86 (lv_at hl 5 rfl) ?_
                  refine wo_lald hx hb hK hw 5 1 rfl rfl i rfl (by first | assumption | omega) (by decide) dX6_split_88 ?_
                  refine lv_goto (tgt := 93) hx hb dX6_split_89 (by decide) ?_
                  refine lv_lstore (lv' := [(9, .long (((mspl1 S room (mall S b0 6) b0 i).1).2 5 i)), (0, .ref (ad 0)), (1, .long room), (3, .int (bI b0)), (4, .long (mall S b0 6)), (6, .long ((mspl1 S room (mall S b0 6) b0 i).2)), (8, .int (nI i))]) hx hb dX6_split_93 hl (by decide) rfl (fun ls hl => ?_)
                  refine lv_aload_n hx hb dX6_split_95 rfl (lv_at hl 1 rfl) ?_
                  refine wo_get hx hb hts inX6 hown hK hw 0 rfl rfl 24 (by decide) (hts _ wd_589) (fun _ h9 => h9) rfl dX6_split_96 ?_
                  refine lv_iload hx hb dX6_split_99 (lv_at hl 6 rfl) ?_
                  refine lv_lload_n hx hb dX6_split_101 rfl (lv_at hl 2 rfl) ?_
                  refine lv_lload hx hb dX6_split_102 (lv_at hl 0 rfl) ?_
                  refine lv_lmul hx hb dX6_split_104 ?_
                  refine lv_lload hx hb dX6_split_105 (lv_at hl 4 rfl) ?_
                  refine lv_ldiv hx hb dX6_split_107 (by first | assumption | omega) ?_
                  refine wo_last hx hb hK hw 20 1 rfl rfl i rfl (by first | assumption | omega) (by decide) (sm_20 ca ad ((mspl1 S room (mall S b0 6) b0 i).1) i ((room * (((mspl1 S room (mall S b0 6) b0 i).1).2 5 i)) / (mall S b0 6))) dX6_split_108 (fun H locs hw => ?_)
                  refine lv_aload_n hx hb dX6_split_109 rfl (lv_at hl 1 rfl) ?_
                  refine wo_get hx hb hts inX6 hown hK hw 0 rfl rfl 25 (by decide) (hts _ wd_590) (fun _ h9 => h9) rfl dX6_split_110 ?_
                  refine lv_iload hx hb dX6_split_113 (lv_at hl 6 rfl) ?_
                  refine lv_lload_n hx hb dX6_split_115 rfl (lv_at hl 2 rfl) ?_
                  refine lv_lload hx hb dX6_split_116 (lv_at hl 0 rfl) ?_
                  refine lv_lmul hx hb dX6_split_118 ?_
                  refine lv_lload hx hb dX6_split_119 (lv_at hl 4 rfl) ?_
                  refine lv_lrem hx hb dX6_split_121 (by first | assumption | omega) ?_
                  refine wo_last hx hb hK hw 21 1 rfl rfl i rfl (by first | assumption | omega) (by decide) (sm_21 ca ad (sL ((mspl1 S room (mall S b0 6) b0 i).1) 20 i ((room * (((mspl1 S room (mall S b0 6) b0 i).1).2 5 i)) / (mall S b0 6))) i ((room * (((mspl1 S room (mall S b0 6) b0 i).1).2 5 i)) - (room * (((mspl1 S room (mall S b0 6) b0 i).1).2 5 i)) / (mall S b0 6) * (mall S b0 6))) dX6_split_122 (fun H locs hw => ?_)
                  refine lv_aload_n hx hb dX6_split_123 rfl (lv_at hl 1 rfl) ?_
                  refine wo_get hx hb hts inX6 hown hK hw 0 rfl rfl 26 (by decide) (hts _ wd_591) (fun _ h9 => h9) rfl dX6_split_124 ?_
                  refine lv_iload hx hb dX6_split_127 (lv_at hl 6 rfl) ?_
                  refine lv_iconst (v := nI 0) hx hb dX6_split_129 (by decide) ?_
                  refine wo_zast hx hb hK hw 22 2 rfl rfl i rfl (by first | assumption | omega) (by decide) (by first | decide | assumption | exact nb_v _) (sm_22 ca ad (sL (sL ((mspl1 S room (mall S b0 6) b0 i).1) 20 i ((room * (((mspl1 S room (mall S b0 6) b0 i).1).2 5 i)) / (mall S b0 6))) 21 i ((room * (((mspl1 S room (mall S b0 6) b0 i).1).2 5 i)) - (room * (((mspl1 S room (mall S b0 6) b0 i).1).2 5 i)) / (mall S b0 6) * (mall S b0 6))) i (nI 0)) dX6_split_130 (fun H locs hw => ?_)
                  refine lv_lload hx hb dX6_split_131 (lv_at hl 5 rfl) ?_
                  refine lv_aload_n hx hb dX6_split_133 rfl (lv_at hl 1 rfl) ?_
                  refine wo_get hx hb hts inX6 hown hK hw 0 rfl rfl 24 (by decide) (hts _ wd_589) (fun _ h9 => h9) rfl dX6_split_134 ?_
                  refine lv_iload hx hb dX6_split_137 (lv_at hl 6 rfl) ?_
                  refine wo_lald hx hb hK hw 20 1 rfl rfl i rfl (by first | assumption | omega) (by decide) dX6_split_139 ?_
                  refine lv_lsub hx hb dX6_split_140 ?_
                  refine lv_lstore (lv' := [(6, .long (((mspl1 S room (mall S b0 6) b0 i).2) - ((sI (sL (sL ((mspl1 S room (mall S b0 6) b0 i).1) 20 i ((room * (((mspl1 S room (mall S b0 6) b0 i).1).2 5 i)) / (mall S b0 6))) 21 i ((room * (((mspl1 S room (mall S b0 6) b0 i).1).2 5 i)) - (room * (((mspl1 S room (mall S b0 6) b0 i).1).2 5 i)) / (mall S b0 6) * (mall S b0 6))) 22 i (nI 0)).2 20 i))), (9, .long (((mspl1 S room (mall S b0 6) b0 i).1).2 5 i)), (0, .ref (ad 0)), (1, .long room), (3, .int (bI b0)), (4, .long (mall S b0 6)), (8, .int (nI i))]) hx hb dX6_split_141 hl (by decide) rfl (fun ls hl => ?_)
                  refine lv_iinc (v := nI (i + 1)) (lv' := [(8, .int (nI (i + 1))), (6, .long (((mspl1 S room (mall S b0 6) b0 i).2) - ((sI (sL (sL ((mspl1 S room (mall S b0 6) b0 i).1) 20 i ((room * (((mspl1 S room (mall S b0 6) b0 i).1).2 5 i)) / (mall S b0 6))) 21 i ((room * (((mspl1 S room (mall S b0 6) b0 i).1).2 5 i)) - (room * (((mspl1 S room (mall S b0 6) b0 i).1).2 5 i)) / (mall S b0 6) * (mall S b0 6))) 22 i (nI 0)).2 20 i))), (9, .long (((mspl1 S room (mall S b0 6) b0 i).1).2 5 i)), (0, .ref (ad 0)), (1, .long room), (3, .int (bI b0)), (4, .long (mall S b0 6))]) hx hb dX6_split_143 hl (k := 6) rfl (nI_inc _) (by decide) rfl (fun ls hl => ?_)
                  refine lv_goto (tgt := 58) hx hb dX6_split_146 (by decide) ?_
                  have e9 : ((mspl1 S room (mall S b0 6) b0 i).2) - ((sI (sL (sL ((mspl1 S room (mall S b0 6) b0 i).1) 20 i ((room * (((mspl1 S room (mall S b0 6) b0 i).1).2 5 i)) / (mall S b0 6))) 21 i ((room * (((mspl1 S room (mall S b0 6) b0 i).1).2 5 i)) - (room * (((mspl1 S room (mall S b0 6) b0 i).1).2 5 i)) / (mall S b0 6) * (mall S b0 6))) 22 i (nI 0)).2 20 i) = (mspl1 S room (mall S b0 6) b0 (i + 1)).2 := by simp only [mspl1, msp1, ho]
                  try rw [e9] at hl
                  have e9 : sI (sL (sL ((mspl1 S room (mall S b0 6) b0 i).1) 20 i ((room * (((mspl1 S room (mall S b0 6) b0 i).1).2 5 i)) / (mall S b0 6))) 21 i ((room * (((mspl1 S room (mall S b0 6) b0 i).1).2 5 i)) - (room * (((mspl1 S room (mall S b0 6) b0 i).1).2 5 i)) / (mall S b0 6) * (mall S b0 6))) 22 i (nI 0) = (mspl1 S room (mall S b0 6) b0 (i + 1)).1 := by simp only [mspl1, msp1, ho]
                  try rw [e9] at hw
                  exact ih_58 (i + 1) (by omega) (by omega) _ _ _ hw (lv_sub hl [3, 4, 5, 6, 1, 0] rfl)
                · skip
                  have c_10 : b0 = true := nb_1 c_10
                  have ho : mown (mspl1 S room (mall S b0 6) b0 i).1 b0 i = 1 := by unfold mown; rw [if_neg (by rw [c_9]; decide), if_neg (by rw [c_10]; decide)]
                  refine lv_lconst (v := 1) hx hb dX6_split_78 (by decide) ?_
                  refine lv_goto (tgt := 93) hx hb dX6_split_79 (by decide) ?_
                  refine lv_lstore (lv' := [(9, .long 1), (0, .ref (ad 0)), (1, .long room), (3, .int (bI b0)), (4, .long (mall S b0 6)), (6, .long ((mspl1 S room (mall S b0 6) b0 i).2)), (8, .int (nI i))]) hx hb dX6_split_93 hl (by decide) rfl (fun ls hl => ?_)
                  refine lv_aload_n hx hb dX6_split_95 rfl (lv_at hl 1 rfl) ?_
                  refine wo_get hx hb hts inX6 hown hK hw 0 rfl rfl 24 (by decide) (hts _ wd_589) (fun _ h9 => h9) rfl dX6_split_96 ?_
                  refine lv_iload hx hb dX6_split_99 (lv_at hl 6 rfl) ?_
                  refine lv_lload_n hx hb dX6_split_101 rfl (lv_at hl 2 rfl) ?_
                  refine lv_lload hx hb dX6_split_102 (lv_at hl 0 rfl) ?_
                  refine lv_lmul hx hb dX6_split_104 ?_
                  refine lv_lload hx hb dX6_split_105 (lv_at hl 4 rfl) ?_
                  refine lv_ldiv hx hb dX6_split_107 (by first | assumption | omega) ?_
                  refine wo_last hx hb hK hw 20 1 rfl rfl i rfl (by first | assumption | omega) (by decide) (sm_20 ca ad ((mspl1 S room (mall S b0 6) b0 i).1) i ((room * 1) / (mall S b0 6))) dX6_split_108 (fun H locs hw => ?_)
                  refine lv_aload_n hx hb dX6_split_109 rfl (lv_at hl 1 rfl) ?_
                  refine wo_get hx hb hts inX6 hown hK hw 0 rfl rfl 25 (by decide) (hts _ wd_590) (fun _ h9 => h9) rfl dX6_split_110 ?_
                  refine lv_iload hx hb dX6_split_113 (lv_at hl 6 rfl) ?_
                  refine lv_lload_n hx hb dX6_split_115 rfl (lv_at hl 2 rfl) ?_
                  refine lv_lload hx hb dX6_split_116 (lv_at hl 0 rfl) ?_
                  refine lv_lmul hx hb dX6_split_118 ?_
                  refine lv_lload hx hb dX6_split_119 (lv_at hl 4 rfl) ?_
                  refine lv_lrem hx hb dX6_split_121 (by first | assumption | omega) ?_
                  refine wo_last hx hb hK hw 21 1 rfl rfl i rfl (by first | assumption | omega) (by decide) (sm_21 ca ad (sL ((mspl1 S room (mall S b0 6) b0 i).1) 20 i ((room * 1) / (mall S b0 6))) i ((room * 1) - (room * 1) / (mall S b0 6) * (mall S b0 6))) dX6_split_122 (fun H locs hw => ?_)
                  refine lv_aload_n hx hb dX6_split_123 rfl (lv_at hl 1 rfl) ?_
                  refine wo_get hx hb hts inX6 hown hK hw 0 rfl rfl 26 (by decide) (hts _ wd_591) (fun _ h9 => h9) rfl dX6_split_124 ?_
                  refine lv_iload hx hb dX6_split_127 (lv_at hl 6 rfl) ?_
                  refine lv_iconst (v := nI 0) hx hb dX6_split_129 (by decide) ?_
                  refine wo_zast hx hb hK hw 22 2 rfl rfl i rfl (by first | assumption | omega) (by decide) (by first | decide | assumption | exact nb_v _) (sm_22 ca ad (sL (sL ((mspl1 S room (mall S b0 6) b0 i).1) 20 i ((room * 1) / (mall S b0 6))) 21 i ((room * 1) - (room * 1) / (mall S b0 6) * (mall S b0 6))) i (nI 0)) dX6_split_130 (fun H locs hw => ?_)
                  refine lv_lload hx hb dX6_split_131 (lv_at hl 5 rfl) ?_
                  refine lv_aload_n hx hb dX6_split_133 rfl (lv_at hl 1 rfl) ?_
                  refine wo_get hx hb hts inX6 hown hK hw 0 rfl rfl 24 (by decide) (hts _ wd_589) (fun _ h9 => h9) rfl dX6_split_134 ?_
                  refine lv_iload hx hb dX6_split_137 (lv_at hl 6 rfl) ?_
                  refine wo_lald hx hb hK hw 20 1 rfl rfl i rfl (by first | assumption | omega) (by decide) dX6_split_139 ?_
                  refine lv_lsub hx hb dX6_split_140 ?_
                  refine lv_lstore (lv' := [(6, .long (((mspl1 S room (mall S b0 6) b0 i).2) - ((sI (sL (sL ((mspl1 S room (mall S b0 6) b0 i).1) 20 i ((room * 1) / (mall S b0 6))) 21 i ((room * 1) - (room * 1) / (mall S b0 6) * (mall S b0 6))) 22 i (nI 0)).2 20 i))), (9, .long 1), (0, .ref (ad 0)), (1, .long room), (3, .int (bI b0)), (4, .long (mall S b0 6)), (8, .int (nI i))]) hx hb dX6_split_141 hl (by decide) rfl (fun ls hl => ?_)
                  refine lv_iinc (v := nI (i + 1)) (lv' := [(8, .int (nI (i + 1))), (6, .long (((mspl1 S room (mall S b0 6) b0 i).2) - ((sI (sL (sL ((mspl1 S room (mall S b0 6) b0 i).1) 20 i ((room * 1) / (mall S b0 6))) 21 i ((room * 1) - (room * 1) / (mall S b0 6) * (mall S b0 6))) 22 i (nI 0)).2 20 i))), (9, .long 1), (0, .ref (ad 0)), (1, .long room), (3, .int (bI b0)), (4, .long (mall S b0 6))]) hx hb dX6_split_143 hl (k := 6) rfl (nI_inc _) (by decide) rfl (fun ls hl => ?_)
                  refine lv_goto (tgt := 58) hx hb dX6_split_146 (by decide) ?_
                  have e9 : ((mspl1 S room (mall S b0 6) b0 i).2) - ((sI (sL (sL ((mspl1 S room (mall S b0 6) b0 i).1) 20 i ((room * 1) / (mall S b0 6))) 21 i ((room * 1) - (room * 1) / (mall S b0 6) * (mall S b0 6))) 22 i (nI 0)).2 20 i) = (mspl1 S room (mall S b0 6) b0 (i + 1)).2 := by simp only [mspl1, msp1, ho]
                  try rw [e9] at hl
                  have e9 : sI (sL (sL ((mspl1 S room (mall S b0 6) b0 i).1) 20 i ((room * 1) / (mall S b0 6))) 21 i ((room * 1) - (room * 1) / (mall S b0 6) * (mall S b0 6))) 22 i (nI 0) = (mspl1 S room (mall S b0 6) b0 (i + 1)).1 := by simp only [mspl1, msp1, ho]
                  try rw [e9] at hw
                  exact ih_58 (i + 1) (by omega) (by omega) _ _ _ hw (lv_sub hl [3, 4, 5, 6, 1, 0] rfl)
        have e9 : room = (mspl1 S room (mall S b0 6) b0 0).2 := rfl
        try rw [e9] at hl
        have e9 : S = (mspl1 S room (mall S b0 6) b0 0).1 := rfl
        try rw [e9] at hw
        exact lp_58 7 0 (by omega) (by omega) _ _ _ hw (lv_sub hl [2, 3, 4, 5, 1, 0] rfl)
      · skip
        have c_1 : ¬ (6 ≤ i) := fun h9 => c_1 ((nI_leI (a := 6) (b := i) (by omega) (by omega)).mpr h9)
        refine lv_lload hx hb dX6_split_13 (lv_at hl 3 rfl) ?_
        refine lv_aload_n hx hb dX6_split_15 rfl (lv_at hl 0 rfl) ?_
        refine lv_iload hx hb dX6_split_16 (lv_at hl 4 rfl) ?_
        refine wo_vI (As := [.int (nI i)]) (rest := [.long (mall S b0 i)]) (kX6_isWell l dC dI ca ad S (nI i)) ⟨hx, hb, hml, hown, hts⟩ (cwV 1 hts (wa_gV wd_655 wd_657 ws_13 wd_8 wd_658) rfl rfl rfl (by decide +kernel) ⟨Nat.le_of_ble_eq_true rfl, Nat.le_of_ble_eq_true rfl⟩) hK hw hA 0 rfl rfl rfl rfl hl.1 rfl (Nat.le_of_ble_eq_true rfl) dX6_split_18 ⟨Nat.zero_le _, Nat.zero_le _⟩ (fun r_11 S_11 H locs hp_11 hw => ?_)
        have e9 := hp_11.1.symm
        subst e9
        have e9 := hp_11.2.symm
        subst e9
        refine lv_if_eq (tgt := 42) hx hb dX6_split_21 (by decide) (fun c_12 => ?_) (fun c_12 => ?_)
        · skip
          have c_12 : mwl S (nI i) = false := nb_0 c_12
          refine lv_lconst (v := 0) hx hb dX6_split_42 (by decide) ?_
          refine lv_ladd hx hb dX6_split_43 ?_
          refine lv_lstore (lv' := [(4, .long ((mall S b0 i) + 0)), (0, .ref (ad 0)), (1, .long room), (3, .int (bI b0)), (6, .int (nI i))]) hx hb dX6_split_44 hl (by decide) rfl (fun ls hl => ?_)
          refine lv_iinc (v := nI (i + 1)) (lv' := [(6, .int (nI (i + 1))), (4, .long ((mall S b0 i) + 0)), (0, .ref (ad 0)), (1, .long room), (3, .int (bI b0))]) hx hb dX6_split_46 hl (k := 4) rfl (nI_inc _) (by decide) rfl (fun ls hl => ?_)
          refine lv_goto (tgt := 6) hx hb dX6_split_49 (by decide) ?_
          have e9 : (mall S b0 i) + 0 = mall S b0 (i + 1) := by first | rfl | (simp only [mall, mown, c_1, c_12, decide_true, decide_false, Bool.not_true, Bool.not_false, Bool.true_and, Bool.and_true, Bool.false_and, Bool.and_false, Bool.or_true, Bool.true_or, Bool.or_false, Bool.false_or, Bool.false_eq_true, Bool.true_eq_false, if_true, if_false, ↓reduceIte]; done)
          try rw [e9] at hl
          exact ih_6 (i + 1) (by omega) (by omega) _ _ _ hw (lv_sub hl [2, 3, 4, 1, 0] rfl)
        · skip
          have c_12 : mwl S (nI i) = true := nb_1 c_12
          refine lv_iload_n hx hb dX6_split_24 rfl (lv_at hl 2 rfl) ?_
          refine lv_if_eq (tgt := 32) hx hb dX6_split_25 (by decide) (fun c_13 => ?_) (fun c_13 => ?_)
          · skip
            have c_13 : b0 = false := nb_0 c_13
            refine lv_aload_n hx hb dX6_split_32 rfl (lv_at hl 0 rfl) ?_
            refine wo_get hx hb hts inX6 hown hK hw 0 rfl rfl 6 (by decide) (hts _ wd_571) (fun _ h9 => h9) rfl dX6_split_33 ?_
            refine lv_iload hx hb dX6_split_36 (lv_at hl 4 rfl) ?_
            refine wo_lald hx hb hK hw 5 1 rfl rfl i rfl (by first | assumption | omega) (by decide) dX6_split_38 ?_
            refine lv_goto (tgt := 43) hx hb dX6_split_39 (by decide) ?_
            refine lv_ladd hx hb dX6_split_43 ?_
            refine lv_lstore (lv' := [(4, .long ((mall S b0 i) + (S.2 5 i))), (0, .ref (ad 0)), (1, .long room), (3, .int (bI b0)), (6, .int (nI i))]) hx hb dX6_split_44 hl (by decide) rfl (fun ls hl => ?_)
            refine lv_iinc (v := nI (i + 1)) (lv' := [(6, .int (nI (i + 1))), (4, .long ((mall S b0 i) + (S.2 5 i))), (0, .ref (ad 0)), (1, .long room), (3, .int (bI b0))]) hx hb dX6_split_46 hl (k := 4) rfl (nI_inc _) (by decide) rfl (fun ls hl => ?_)
            refine lv_goto (tgt := 6) hx hb dX6_split_49 (by decide) ?_
            have e9 : (mall S b0 i) + (S.2 5 i) = mall S b0 (i + 1) := by first | rfl | (simp only [mall, mown, c_1, c_12, c_13, decide_true, decide_false, Bool.not_true, Bool.not_false, Bool.true_and, Bool.and_true, Bool.false_and, Bool.and_false, Bool.or_true, Bool.true_or, Bool.or_false, Bool.false_or, Bool.false_eq_true, Bool.true_eq_false, if_true, if_false, ↓reduceIte]; done)
            try rw [e9] at hl
            exact ih_6 (i + 1) (by omega) (by omega) _ _ _ hw (lv_sub hl [2, 3, 4, 1, 0] rfl)
          · skip
            have c_13 : b0 = true := nb_1 c_13
            refine lv_lconst (v := 1) hx hb dX6_split_28 (by decide) ?_
            refine lv_goto (tgt := 43) hx hb dX6_split_29 (by decide) ?_
            refine lv_ladd hx hb dX6_split_43 ?_
            refine lv_lstore (lv' := [(4, .long ((mall S b0 i) + 1)), (0, .ref (ad 0)), (1, .long room), (3, .int (bI b0)), (6, .int (nI i))]) hx hb dX6_split_44 hl (by decide) rfl (fun ls hl => ?_)
            refine lv_iinc (v := nI (i + 1)) (lv' := [(6, .int (nI (i + 1))), (4, .long ((mall S b0 i) + 1)), (0, .ref (ad 0)), (1, .long room), (3, .int (bI b0))]) hx hb dX6_split_46 hl (k := 4) rfl (nI_inc _) (by decide) rfl (fun ls hl => ?_)
            refine lv_goto (tgt := 6) hx hb dX6_split_49 (by decide) ?_
            have e9 : (mall S b0 i) + 1 = mall S b0 (i + 1) := by first | rfl | (simp only [mall, mown, c_1, c_12, c_13, decide_true, decide_false, Bool.not_true, Bool.not_false, Bool.true_and, Bool.and_true, Bool.false_and, Bool.and_false, Bool.or_true, Bool.true_or, Bool.or_false, Bool.false_or, Bool.false_eq_true, Bool.true_eq_false, if_true, if_false, ↓reduceIte]; done)
            try rw [e9] at hl
            exact ih_6 (i + 1) (by omega) (by omega) _ _ _ hw (lv_sub hl [2, 3, 4, 1, 0] rfl)
  have e9 : 0 = mall S b0 0 := by first | rfl | (simp only [mall, mown, decide_true, decide_false, Bool.not_true, Bool.not_false, Bool.true_and, Bool.and_true, Bool.false_and, Bool.and_false, Bool.or_true, Bool.true_or, Bool.or_false, Bool.false_or, Bool.false_eq_true, Bool.true_eq_false, if_true, if_false, ↓reduceIte]; done)
  try rw [e9] at hl
  exact lp_6 7 0 (by omega) (by omega) _ _ _ hw (lv_sub hl [2, 3, 4, 1, 0] rfl)
end
section
theorem dX6_move_0 : decode cX6_move 0 = .ok (.lload_n 3, 1) := by decide +kernel
theorem dX6_move_1 : decode cX6_move 1 = .ok (.lconst 0, 1) := by decide +kernel
theorem dX6_move_2 : decode cX6_move 2 = .ok (.lcmp, 1) := by decide +kernel
theorem dX6_move_3 : decode cX6_move 3 = .ok (.ifCond .le 7, 3) := by decide +kernel
theorem dX6_move_6 : decode cX6_move 6 = .ok (.iconst 0, 1) := by decide +kernel
theorem dX6_move_7 : decode cX6_move 7 = .ok (.goto 4, 3) := by decide +kernel
theorem dX6_move_10 : decode cX6_move 10 = .ok (.iconst 1, 1) := by decide +kernel
theorem dX6_move_11 : decode cX6_move 11 = .ok (.istore 5, 2) := by decide +kernel
theorem dX6_move_13 : decode cX6_move 13 = .ok (.lload_n 3, 1) := by decide +kernel
theorem dX6_move_14 : decode cX6_move 14 = .ok (.lconst 0, 1) := by decide +kernel
theorem dX6_move_15 : decode cX6_move 15 = .ok (.lcmp, 1) := by decide +kernel
theorem dX6_move_16 : decode cX6_move 16 = .ok (.ifCond .le 7, 3) := by decide +kernel
theorem dX6_move_19 : decode cX6_move 19 = .ok (.lload_n 3, 1) := by decide +kernel
theorem dX6_move_20 : decode cX6_move 20 = .ok (.goto 5, 3) := by decide +kernel
theorem dX6_move_23 : decode cX6_move 23 = .ok (.lload_n 3, 1) := by decide +kernel
theorem dX6_move_24 : decode cX6_move 24 = .ok (.lneg, 1) := by decide +kernel
theorem dX6_move_25 : decode cX6_move 25 = .ok (.lstore 6, 2) := by decide +kernel
theorem dX6_move_27 : decode cX6_move 27 = .ok (.aload_n 0, 1) := by decide +kernel
theorem dX6_move_28 : decode cX6_move 28 = .ok (.getfield 19, 3) := by decide +kernel
theorem dX6_move_31 : decode cX6_move 31 = .ok (.iload_n 1, 1) := by decide +kernel
theorem dX6_move_32 : decode cX6_move 32 = .ok (.iload 5, 2) := by decide +kernel
theorem dX6_move_34 : decode cX6_move 34 = .ok (.iload_n 2, 1) := by decide +kernel
theorem dX6_move_35 : decode cX6_move 35 = .ok (.invokestatic 111, 3) := by decide +kernel
theorem dX6_move_38 : decode cX6_move 38 = .ok (.laload, 1) := by decide +kernel
theorem dX6_move_39 : decode cX6_move 39 = .ok (.lload 6, 2) := by decide +kernel
theorem dX6_move_41 : decode cX6_move 41 = .ok (.lcmp, 1) := by decide +kernel
theorem dX6_move_42 : decode cX6_move 42 = .ok (.ifCond .ge 5, 3) := by decide +kernel
theorem dX6_move_45 : decode cX6_move 45 = .ok (.iconst 0, 1) := by decide +kernel
theorem dX6_move_46 : decode cX6_move 46 = .ok (.ireturn, 1) := by decide +kernel
theorem dX6_move_47 : decode cX6_move 47 = .ok (.aload_n 0, 1) := by decide +kernel
theorem dX6_move_48 : decode cX6_move 48 = .ok (.getfield 19, 3) := by decide +kernel
theorem dX6_move_51 : decode cX6_move 51 = .ok (.iload_n 1, 1) := by decide +kernel
theorem dX6_move_52 : decode cX6_move 52 = .ok (.iload 5, 2) := by decide +kernel
theorem dX6_move_54 : decode cX6_move 54 = .ok (.iload_n 2, 1) := by decide +kernel
theorem dX6_move_55 : decode cX6_move 55 = .ok (.invokestatic 111, 3) := by decide +kernel
theorem dX6_move_58 : decode cX6_move 58 = .ok (.dup2, 1) := by decide +kernel
theorem dX6_move_59 : decode cX6_move 59 = .ok (.laload, 1) := by decide +kernel
theorem dX6_move_60 : decode cX6_move 60 = .ok (.lload 6, 2) := by decide +kernel
theorem dX6_move_62 : decode cX6_move 62 = .ok (.lsub, 1) := by decide +kernel
theorem dX6_move_63 : decode cX6_move 63 = .ok (.lastore, 1) := by decide +kernel
theorem dX6_move_64 : decode cX6_move 64 = .ok (.aload_n 0, 1) := by decide +kernel
theorem dX6_move_65 : decode cX6_move 65 = .ok (.getfield 19, 3) := by decide +kernel
theorem dX6_move_68 : decode cX6_move 68 = .ok (.iload_n 1, 1) := by decide +kernel
theorem dX6_move_69 : decode cX6_move 69 = .ok (.iconst 1, 1) := by decide +kernel
theorem dX6_move_70 : decode cX6_move 70 = .ok (.iload 5, 2) := by decide +kernel
theorem dX6_move_72 : decode cX6_move 72 = .ok (.isub, 1) := by decide +kernel
theorem dX6_move_73 : decode cX6_move 73 = .ok (.iload_n 2, 1) := by decide +kernel
theorem dX6_move_74 : decode cX6_move 74 = .ok (.invokestatic 111, 3) := by decide +kernel
theorem dX6_move_77 : decode cX6_move 77 = .ok (.dup2, 1) := by decide +kernel
theorem dX6_move_78 : decode cX6_move 78 = .ok (.laload, 1) := by decide +kernel
theorem dX6_move_79 : decode cX6_move 79 = .ok (.lload 6, 2) := by decide +kernel
theorem dX6_move_81 : decode cX6_move 81 = .ok (.ladd, 1) := by decide +kernel
theorem dX6_move_82 : decode cX6_move 82 = .ok (.lastore, 1) := by decide +kernel
theorem dX6_move_83 : decode cX6_move 83 = .ok (.aload_n 0, 1) := by decide +kernel
theorem dX6_move_84 : decode cX6_move 84 = .ok (.getfield 13, 3) := by decide +kernel
theorem dX6_move_87 : decode cX6_move 87 = .ok (.iload_n 1, 1) := by decide +kernel
theorem dX6_move_88 : decode cX6_move 88 = .ok (.dup2, 1) := by decide +kernel
theorem dX6_move_89 : decode cX6_move 89 = .ok (.laload, 1) := by decide +kernel
theorem dX6_move_90 : decode cX6_move 90 = .ok (.lload_n 3, 1) := by decide +kernel
theorem dX6_move_91 : decode cX6_move 91 = .ok (.lsub, 1) := by decide +kernel
theorem dX6_move_92 : decode cX6_move 92 = .ok (.lastore, 1) := by decide +kernel
theorem dX6_move_93 : decode cX6_move 93 = .ok (.aload_n 0, 1) := by decide +kernel
theorem dX6_move_94 : decode cX6_move 94 = .ok (.dup, 1) := by decide +kernel
theorem dX6_move_95 : decode cX6_move 95 = .ok (.getfield 115, 3) := by decide +kernel
theorem dX6_move_98 : decode cX6_move 98 = .ok (.iconst 1, 1) := by decide +kernel
theorem dX6_move_99 : decode cX6_move 99 = .ok (.iadd, 1) := by decide +kernel
theorem dX6_move_100 : decode cX6_move 100 = .ok (.putfield 115, 3) := by decide +kernel
theorem dX6_move_103 : decode cX6_move 103 = .ok (.iconst 1, 1) := by decide +kernel
theorem dX6_move_104 : decode cX6_move 104 = .ok (.ireturn, 1) := by decide +kernel

set_option maxHeartbeats 4000000 in
set_option maxRecDepth 100000 in
theorem kX6_move (l : Launch) (dC : Nat → ClassId) (dI : Nat → Nat → Nat) (ca : Nat → ClassId) (ad : Nat → Nat) (S : sSt) (bb : Nat) (pp : Nat) (vv : Int64) (hb6 : bb < 6) (hp6 : pp < 6) : ct_I l yX6_move (Cond.code yX6_move cX6_move 8 (some .boolean) :: wa_T) ({ frames := 1, cells := 0, slots := 0, locals := 22 } : Room) (dC, dI) vwCl (tyl ca) (wq ca ad) S [.ref (ad 0), .int (nI bb), .int (nI pp), .long vv] (fun r S2 => r = bI (mmvOk S bb pp vv) ∧ S2 = (if mmvOk S bb pp vv = true then mmvS S bb pp vv else S)) := by
  refine ct_ofI (by decide) (Nat.le_of_ble_eq_true rfl) ?_
  intro p e s m below meth c A ls hx hb hr hml hts hown hlocks hK hA hw hl
  have hl : lv_has ls 8 [(0, .ref (ad 0)), (1, .int (nI bb)), (2, .int (nI pp)), (3, .long vv)] := hl
  refine lv_lload_n hx hb dX6_move_0 rfl (lv_at hl 3 rfl) ?_
  refine lv_lconst (v := 0) hx hb dX6_move_1 (by decide) ?_
  refine lc_le (tgt := 10) hx hb dX6_move_2 dX6_move_3 (by decide) (fun c_1 => ?_) (fun c_1 => ?_)
  · skip
    refine lv_iconst (v := nI 1) hx hb dX6_move_10 (by decide) ?_
    refine lv_istore (lv' := [(5, .int (nI 1)), (0, .ref (ad 0)), (1, .int (nI bb)), (2, .int (nI pp)), (3, .long vv)]) hx hb dX6_move_11 hl (by decide) rfl (fun ls hl => ?_)
    refine lv_lload_n hx hb dX6_move_13 rfl (lv_at hl 4 rfl) ?_
    refine lv_lconst (v := 0) hx hb dX6_move_14 (by decide) ?_
    refine lc_le (tgt := 23) hx hb dX6_move_15 dX6_move_16 (by decide) (fun c_2 => ?_) (fun c_2 => ?_)
    · skip
      refine lv_lload_n hx hb dX6_move_23 rfl (lv_at hl 4 rfl) ?_
      refine lv_lneg hx hb dX6_move_24 ?_
      refine lv_lstore (lv' := [(6, .long (-vv)), (5, .int (nI 1)), (0, .ref (ad 0)), (1, .int (nI bb)), (2, .int (nI pp)), (3, .long vv)]) hx hb dX6_move_25 hl (by decide) rfl (fun ls hl => ?_)
      refine lv_aload_n hx hb dX6_move_27 rfl (lv_at hl 2 rfl) ?_
      refine wo_get hx hb hts inX6 hown hK hw 0 rfl rfl 5 (by decide) (hts _ wd_570) (fun _ h9 => h9) rfl dX6_move_28 ?_
      refine lv_iload_n hx hb dX6_move_31 rfl (lv_at hl 3 rfl) ?_
      refine lv_iload hx hb dX6_move_32 (lv_at hl 1 rfl) ?_
      refine lv_iload_n hx hb dX6_move_34 rfl (lv_at hl 4 rfl) ?_
      refine wo_sI (As := [.int (nI bb), .int (nI 1), .int (nI pp)]) (rest := [.ref (ad 4)]) (kX6_at l dC dI ca ad S bb 1 pp) ⟨hx, hb, hml, hown, hts⟩ (va_cwS 3 hts (wa_gS wd_680 wd_681 wd_8 wd_682) rfl rfl rfl (by decide +kernel) ⟨Nat.le_of_ble_eq_true rfl, Nat.le_of_ble_eq_true rfl⟩) hK hw hA rfl hl.1 rfl (Nat.le_of_ble_eq_true rfl) dX6_move_35 ⟨Nat.zero_le _, Nat.zero_le _⟩ (fun r_3 S_3 H locs hp_3 hw => ?_)
      have e9 := hp_3.1.symm
      subst e9
      have e9 := hp_3.2.symm
      subst e9
      refine wo_lald hx hb hK hw 4 1 rfl rfl (12 * bb + 6 * 1 + pp) rfl (by first | assumption | omega) (by decide) dX6_move_38 ?_
      refine lv_lload hx hb dX6_move_39 (lv_at hl 0 rfl) ?_
      refine lc_ge (tgt := 47) hx hb dX6_move_41 dX6_move_42 (by decide) (fun c_4 => ?_) (fun c_4 => ?_)
      · skip
        refine lv_aload_n hx hb dX6_move_47 rfl (lv_at hl 2 rfl) ?_
        refine wo_get hx hb hts inX6 hown hK hw 0 rfl rfl 5 (by decide) (hts _ wd_570) (fun _ h9 => h9) rfl dX6_move_48 ?_
        refine lv_iload_n hx hb dX6_move_51 rfl (lv_at hl 3 rfl) ?_
        refine lv_iload hx hb dX6_move_52 (lv_at hl 1 rfl) ?_
        refine lv_iload_n hx hb dX6_move_54 rfl (lv_at hl 4 rfl) ?_
        refine wo_sI (As := [.int (nI bb), .int (nI 1), .int (nI pp)]) (rest := [.ref (ad 4)]) (kX6_at l dC dI ca ad S bb 1 pp) ⟨hx, hb, hml, hown, hts⟩ (va_cwS 3 hts (wa_gS wd_680 wd_681 wd_8 wd_682) rfl rfl rfl (by decide +kernel) ⟨Nat.le_of_ble_eq_true rfl, Nat.le_of_ble_eq_true rfl⟩) hK hw hA rfl hl.1 rfl (Nat.le_of_ble_eq_true rfl) dX6_move_55 ⟨Nat.zero_le _, Nat.zero_le _⟩ (fun r_5 S_5 H locs hp_5 hw => ?_)
        have e9 := hp_5.1.symm
        subst e9
        have e9 := hp_5.2.symm
        subst e9
        refine lv_dup2_11 hx hb dX6_move_58 rfl rfl ?_
        refine wo_lald hx hb hK hw 4 1 rfl rfl (12 * bb + 6 * 1 + pp) rfl (by first | assumption | omega) (by decide) dX6_move_59 ?_
        refine lv_lload hx hb dX6_move_60 (lv_at hl 0 rfl) ?_
        refine lv_lsub hx hb dX6_move_62 ?_
        refine wo_last hx hb hK hw 4 1 rfl rfl (12 * bb + 6 * 1 + pp) rfl (by first | assumption | omega) (by decide) (sm_4 ca ad S (12 * bb + 6 * 1 + pp) ((S.2 4 (12 * bb + 6 * 1 + pp)) - (-vv))) dX6_move_63 (fun H locs hw => ?_)
        refine lv_aload_n hx hb dX6_move_64 rfl (lv_at hl 2 rfl) ?_
        refine wo_get hx hb hts inX6 hown hK hw 0 rfl rfl 5 (by decide) (hts _ wd_570) (fun _ h9 => h9) rfl dX6_move_65 ?_
        refine lv_iload_n hx hb dX6_move_68 rfl (lv_at hl 3 rfl) ?_
        refine lv_iconst (v := nI 1) hx hb dX6_move_69 (by decide) ?_
        refine lv_iload hx hb dX6_move_70 (lv_at hl 1 rfl) ?_
        refine lv_isub hx hb dX6_move_72 ?_
        refine tp_i (pk_sub (a := 1) (b := 1) (by omega)) ?_
        refine lv_iload_n hx hb dX6_move_73 rfl (lv_at hl 4 rfl) ?_
        refine wo_sI (As := [.int (nI bb), .int (nI (1 - 1)), .int (nI pp)]) (rest := [.ref (ad 4)]) (kX6_at l dC dI ca ad (sL S 4 (12 * bb + 6 * 1 + pp) ((S.2 4 (12 * bb + 6 * 1 + pp)) - (-vv))) bb (1 - 1) pp) ⟨hx, hb, hml, hown, hts⟩ (va_cwS 3 hts (wa_gS wd_680 wd_681 wd_8 wd_682) rfl rfl rfl (by decide +kernel) ⟨Nat.le_of_ble_eq_true rfl, Nat.le_of_ble_eq_true rfl⟩) hK hw hA rfl hl.1 rfl (Nat.le_of_ble_eq_true rfl) dX6_move_74 ⟨Nat.zero_le _, Nat.zero_le _⟩ (fun r_6 S_6 H locs hp_6 hw => ?_)
        have e9 := hp_6.1.symm
        subst e9
        have e9 := hp_6.2.symm
        subst e9
        refine lv_dup2_11 hx hb dX6_move_77 rfl rfl ?_
        refine wo_lald hx hb hK hw 4 1 rfl rfl (12 * bb + 6 * (1 - 1) + pp) rfl (by first | assumption | omega) (by decide) dX6_move_78 ?_
        refine lv_lload hx hb dX6_move_79 (lv_at hl 0 rfl) ?_
        refine lv_ladd hx hb dX6_move_81 ?_
        refine wo_last hx hb hK hw 4 1 rfl rfl (12 * bb + 6 * (1 - 1) + pp) rfl (by first | assumption | omega) (by decide) (sm_4 ca ad (sL S 4 (12 * bb + 6 * 1 + pp) ((S.2 4 (12 * bb + 6 * 1 + pp)) - (-vv))) (12 * bb + 6 * (1 - 1) + pp) (((sL S 4 (12 * bb + 6 * 1 + pp) ((S.2 4 (12 * bb + 6 * 1 + pp)) - (-vv))).2 4 (12 * bb + 6 * (1 - 1) + pp)) + (-vv))) dX6_move_82 (fun H locs hw => ?_)
        refine lv_aload_n hx hb dX6_move_83 rfl (lv_at hl 2 rfl) ?_
        refine wo_get hx hb hts inX6 hown hK hw 0 rfl rfl 3 (by decide) (hts _ wd_568) (fun _ h9 => h9) rfl dX6_move_84 ?_
        refine lv_iload_n hx hb dX6_move_87 rfl (lv_at hl 3 rfl) ?_
        refine lv_dup2_11 hx hb dX6_move_88 rfl rfl ?_
        refine wo_lald hx hb hK hw 2 1 rfl rfl bb rfl (by first | assumption | omega) (by decide) dX6_move_89 ?_
        refine lv_lload_n hx hb dX6_move_90 rfl (lv_at hl 5 rfl) ?_
        refine lv_lsub hx hb dX6_move_91 ?_
        refine wo_last hx hb hK hw 2 1 rfl rfl bb rfl (by first | assumption | omega) (by decide) (sm_2 ca ad (sL (sL S 4 (12 * bb + 6 * 1 + pp) ((S.2 4 (12 * bb + 6 * 1 + pp)) - (-vv))) 4 (12 * bb + 6 * (1 - 1) + pp) (((sL S 4 (12 * bb + 6 * 1 + pp) ((S.2 4 (12 * bb + 6 * 1 + pp)) - (-vv))).2 4 (12 * bb + 6 * (1 - 1) + pp)) + (-vv))) bb (((sL (sL S 4 (12 * bb + 6 * 1 + pp) ((S.2 4 (12 * bb + 6 * 1 + pp)) - (-vv))) 4 (12 * bb + 6 * (1 - 1) + pp) (((sL S 4 (12 * bb + 6 * 1 + pp) ((S.2 4 (12 * bb + 6 * 1 + pp)) - (-vv))).2 4 (12 * bb + 6 * (1 - 1) + pp)) + (-vv))).2 2 bb) - vv)) dX6_move_92 (fun H locs hw => ?_)
        refine lv_aload_n hx hb dX6_move_93 rfl (lv_at hl 2 rfl) ?_
        refine lv_dup hx hb dX6_move_94 rfl ?_
        refine wo_get hx hb hts inX6 hown hK hw 0 rfl rfl 22 (by decide) (hts _ wd_587) (fun _ h9 => h9) rfl dX6_move_95 ?_
        refine lv_iconst (v := nI 1) hx hb dX6_move_98 (by decide) ?_
        refine lv_iadd hx hb dX6_move_99 ?_
        refine wo_put (ty := .int) (v := .int (((sL (sL (sL S 4 (12 * bb + 6 * 1 + pp) ((S.2 4 (12 * bb + 6 * 1 + pp)) - (-vv))) 4 (12 * bb + 6 * (1 - 1) + pp) (((sL S 4 (12 * bb + 6 * 1 + pp) ((S.2 4 (12 * bb + 6 * 1 + pp)) - (-vv))).2 4 (12 * bb + 6 * (1 - 1) + pp)) + (-vv))) 2 bb (((sL (sL S 4 (12 * bb + 6 * 1 + pp) ((S.2 4 (12 * bb + 6 * 1 + pp)) - (-vv))) 4 (12 * bb + 6 * (1 - 1) + pp) (((sL S 4 (12 * bb + 6 * 1 + pp) ((S.2 4 (12 * bb + 6 * 1 + pp)) - (-vv))).2 4 (12 * bb + 6 * (1 - 1) + pp)) + (-vv))).2 2 bb) - vv)).1 0 22) + (nI 1))) hx hb hts inX6 tyX6 tyX6_ok nmX6 hown hK hw 0 rfl rfl 22 (by decide) (hts _ wd_587) (fun _ h9 => h9) rfl (by decide +kernel) rfl rfl (Nat.le_of_ble_eq_true rfl) (sg_22 ca ad (sL (sL (sL S 4 (12 * bb + 6 * 1 + pp) ((S.2 4 (12 * bb + 6 * 1 + pp)) - (-vv))) 4 (12 * bb + 6 * (1 - 1) + pp) (((sL S 4 (12 * bb + 6 * 1 + pp) ((S.2 4 (12 * bb + 6 * 1 + pp)) - (-vv))).2 4 (12 * bb + 6 * (1 - 1) + pp)) + (-vv))) 2 bb (((sL (sL S 4 (12 * bb + 6 * 1 + pp) ((S.2 4 (12 * bb + 6 * 1 + pp)) - (-vv))) 4 (12 * bb + 6 * (1 - 1) + pp) (((sL S 4 (12 * bb + 6 * 1 + pp) ((S.2 4 (12 * bb + 6 * 1 + pp)) - (-vv))).2 4 (12 * bb + 6 * (1 - 1) + pp)) + (-vv))).2 2 bb) - vv)) (((sL (sL (sL S 4 (12 * bb + 6 * 1 + pp) ((S.2 4 (12 * bb + 6 * 1 + pp)) - (-vv))) 4 (12 * bb + 6 * (1 - 1) + pp) (((sL S 4 (12 * bb + 6 * 1 + pp) ((S.2 4 (12 * bb + 6 * 1 + pp)) - (-vv))).2 4 (12 * bb + 6 * (1 - 1) + pp)) + (-vv))) 2 bb (((sL (sL S 4 (12 * bb + 6 * 1 + pp) ((S.2 4 (12 * bb + 6 * 1 + pp)) - (-vv))) 4 (12 * bb + 6 * (1 - 1) + pp) (((sL S 4 (12 * bb + 6 * 1 + pp) ((S.2 4 (12 * bb + 6 * 1 + pp)) - (-vv))).2 4 (12 * bb + 6 * (1 - 1) + pp)) + (-vv))).2 2 bb) - vv)).1 0 22) + (nI 1))) dX6_move_100 (fun H locs hw => ?_)
        refine lv_iconst (v := nI 1) hx hb dX6_move_103 (by decide) ?_
        exact ct_zret (S := sI (sL (sL (sL S 4 (12 * bb + 6 * 1 + pp) ((S.2 4 (12 * bb + 6 * 1 + pp)) - (-vv))) 4 (12 * bb + 6 * (1 - 1) + pp) (((sL S 4 (12 * bb + 6 * 1 + pp) ((S.2 4 (12 * bb + 6 * 1 + pp)) - (-vv))).2 4 (12 * bb + 6 * (1 - 1) + pp)) + (-vv))) 2 bb (((sL (sL S 4 (12 * bb + 6 * 1 + pp) ((S.2 4 (12 * bb + 6 * 1 + pp)) - (-vv))) 4 (12 * bb + 6 * (1 - 1) + pp) (((sL S 4 (12 * bb + 6 * 1 + pp) ((S.2 4 (12 * bb + 6 * 1 + pp)) - (-vv))).2 4 (12 * bb + 6 * (1 - 1) + pp)) + (-vv))).2 2 bb) - vv)) 0 22 (((sL (sL (sL S 4 (12 * bb + 6 * 1 + pp) ((S.2 4 (12 * bb + 6 * 1 + pp)) - (-vv))) 4 (12 * bb + 6 * (1 - 1) + pp) (((sL S 4 (12 * bb + 6 * 1 + pp) ((S.2 4 (12 * bb + 6 * 1 + pp)) - (-vv))).2 4 (12 * bb + 6 * (1 - 1) + pp)) + (-vv))) 2 bb (((sL (sL S 4 (12 * bb + 6 * 1 + pp) ((S.2 4 (12 * bb + 6 * 1 + pp)) - (-vv))) 4 (12 * bb + 6 * (1 - 1) + pp) (((sL S 4 (12 * bb + 6 * 1 + pp) ((S.2 4 (12 * bb + 6 * 1 + pp)) - (-vv))).2 4 (12 * bb + 6 * (1 - 1) + pp)) + (-vv))).2 2 bb) - vv)).1 0 22) + (nI 1))) (v := nI 1) hx hb hr hlocks hK (by first | decide | exact nb_z _) hw (⟨by simp only [bI, mmvOk, c_1, c_2, c_4, decide_true, decide_false, Bool.not_true, Bool.not_false, Bool.true_and, Bool.and_true, Bool.false_and, Bool.and_false, Bool.or_true, Bool.true_or, Bool.or_false, Bool.false_or, Bool.false_eq_true, Bool.true_eq_false, if_true, if_false, ↓reduceIte], by simp only [mmvOk, mmvS, mmv1, mmv2, c_1, c_2, c_4, decide_true, decide_false, Bool.not_true, Bool.not_false, Bool.true_and, Bool.and_true, Bool.false_and, Bool.and_false, Bool.or_true, Bool.true_or, Bool.or_false, Bool.false_or, Bool.false_eq_true, Bool.true_eq_false, if_true, if_false, ↓reduceIte]⟩) dX6_move_104
      · skip
        refine lv_iconst (v := nI 0) hx hb dX6_move_45 (by decide) ?_
        exact ct_zret (S := S) (v := nI 0) hx hb hr hlocks hK (by first | decide | exact nb_z _) hw (⟨by simp only [bI, mmvOk, c_1, c_2, c_4, decide_true, decide_false, Bool.not_true, Bool.not_false, Bool.true_and, Bool.and_true, Bool.false_and, Bool.and_false, Bool.or_true, Bool.true_or, Bool.or_false, Bool.false_or, Bool.false_eq_true, Bool.true_eq_false, if_true, if_false, ↓reduceIte], by simp only [mmvOk, mmvS, mmv1, mmv2, c_1, c_2, c_4, decide_true, decide_false, Bool.not_true, Bool.not_false, Bool.true_and, Bool.and_true, Bool.false_and, Bool.and_false, Bool.or_true, Bool.true_or, Bool.or_false, Bool.false_or, Bool.false_eq_true, Bool.true_eq_false, if_true, if_false, ↓reduceIte]⟩) dX6_move_46
    · skip
      exact absurd c_1 c_2
  · skip
    refine lv_iconst (v := nI 0) hx hb dX6_move_6 (by decide) ?_
    refine lv_goto (tgt := 11) hx hb dX6_move_7 (by decide) ?_
    refine lv_istore (lv' := [(5, .int (nI 0)), (0, .ref (ad 0)), (1, .int (nI bb)), (2, .int (nI pp)), (3, .long vv)]) hx hb dX6_move_11 hl (by decide) rfl (fun ls hl => ?_)
    refine lv_lload_n hx hb dX6_move_13 rfl (lv_at hl 4 rfl) ?_
    refine lv_lconst (v := 0) hx hb dX6_move_14 (by decide) ?_
    refine lc_le (tgt := 23) hx hb dX6_move_15 dX6_move_16 (by decide) (fun c_7 => ?_) (fun c_7 => ?_)
    · skip
      exact absurd c_7 c_1
    · skip
      refine lv_lload_n hx hb dX6_move_19 rfl (lv_at hl 4 rfl) ?_
      refine lv_goto (tgt := 25) hx hb dX6_move_20 (by decide) ?_
      refine lv_lstore (lv' := [(6, .long vv), (5, .int (nI 0)), (0, .ref (ad 0)), (1, .int (nI bb)), (2, .int (nI pp)), (3, .long vv)]) hx hb dX6_move_25 hl (by decide) rfl (fun ls hl => ?_)
      refine lv_aload_n hx hb dX6_move_27 rfl (lv_at hl 2 rfl) ?_
      refine wo_get hx hb hts inX6 hown hK hw 0 rfl rfl 5 (by decide) (hts _ wd_570) (fun _ h9 => h9) rfl dX6_move_28 ?_
      refine lv_iload_n hx hb dX6_move_31 rfl (lv_at hl 3 rfl) ?_
      refine lv_iload hx hb dX6_move_32 (lv_at hl 1 rfl) ?_
      refine lv_iload_n hx hb dX6_move_34 rfl (lv_at hl 4 rfl) ?_
      refine wo_sI (As := [.int (nI bb), .int (nI 0), .int (nI pp)]) (rest := [.ref (ad 4)]) (kX6_at l dC dI ca ad S bb 0 pp) ⟨hx, hb, hml, hown, hts⟩ (va_cwS 3 hts (wa_gS wd_680 wd_681 wd_8 wd_682) rfl rfl rfl (by decide +kernel) ⟨Nat.le_of_ble_eq_true rfl, Nat.le_of_ble_eq_true rfl⟩) hK hw hA rfl hl.1 rfl (Nat.le_of_ble_eq_true rfl) dX6_move_35 ⟨Nat.zero_le _, Nat.zero_le _⟩ (fun r_8 S_8 H locs hp_8 hw => ?_)
      have e9 := hp_8.1.symm
      subst e9
      have e9 := hp_8.2.symm
      subst e9
      refine wo_lald hx hb hK hw 4 1 rfl rfl (12 * bb + 6 * 0 + pp) rfl (by first | assumption | omega) (by decide) dX6_move_38 ?_
      refine lv_lload hx hb dX6_move_39 (lv_at hl 0 rfl) ?_
      refine lc_ge (tgt := 47) hx hb dX6_move_41 dX6_move_42 (by decide) (fun c_9 => ?_) (fun c_9 => ?_)
      · skip
        refine lv_aload_n hx hb dX6_move_47 rfl (lv_at hl 2 rfl) ?_
        refine wo_get hx hb hts inX6 hown hK hw 0 rfl rfl 5 (by decide) (hts _ wd_570) (fun _ h9 => h9) rfl dX6_move_48 ?_
        refine lv_iload_n hx hb dX6_move_51 rfl (lv_at hl 3 rfl) ?_
        refine lv_iload hx hb dX6_move_52 (lv_at hl 1 rfl) ?_
        refine lv_iload_n hx hb dX6_move_54 rfl (lv_at hl 4 rfl) ?_
        refine wo_sI (As := [.int (nI bb), .int (nI 0), .int (nI pp)]) (rest := [.ref (ad 4)]) (kX6_at l dC dI ca ad S bb 0 pp) ⟨hx, hb, hml, hown, hts⟩ (va_cwS 3 hts (wa_gS wd_680 wd_681 wd_8 wd_682) rfl rfl rfl (by decide +kernel) ⟨Nat.le_of_ble_eq_true rfl, Nat.le_of_ble_eq_true rfl⟩) hK hw hA rfl hl.1 rfl (Nat.le_of_ble_eq_true rfl) dX6_move_55 ⟨Nat.zero_le _, Nat.zero_le _⟩ (fun r_10 S_10 H locs hp_10 hw => ?_)
        have e9 := hp_10.1.symm
        subst e9
        have e9 := hp_10.2.symm
        subst e9
        refine lv_dup2_11 hx hb dX6_move_58 rfl rfl ?_
        refine wo_lald hx hb hK hw 4 1 rfl rfl (12 * bb + 6 * 0 + pp) rfl (by first | assumption | omega) (by decide) dX6_move_59 ?_
        refine lv_lload hx hb dX6_move_60 (lv_at hl 0 rfl) ?_
        refine lv_lsub hx hb dX6_move_62 ?_
        refine wo_last hx hb hK hw 4 1 rfl rfl (12 * bb + 6 * 0 + pp) rfl (by first | assumption | omega) (by decide) (sm_4 ca ad S (12 * bb + 6 * 0 + pp) ((S.2 4 (12 * bb + 6 * 0 + pp)) - vv)) dX6_move_63 (fun H locs hw => ?_)
        refine lv_aload_n hx hb dX6_move_64 rfl (lv_at hl 2 rfl) ?_
        refine wo_get hx hb hts inX6 hown hK hw 0 rfl rfl 5 (by decide) (hts _ wd_570) (fun _ h9 => h9) rfl dX6_move_65 ?_
        refine lv_iload_n hx hb dX6_move_68 rfl (lv_at hl 3 rfl) ?_
        refine lv_iconst (v := nI 1) hx hb dX6_move_69 (by decide) ?_
        refine lv_iload hx hb dX6_move_70 (lv_at hl 1 rfl) ?_
        refine lv_isub hx hb dX6_move_72 ?_
        refine tp_i (pk_sub (a := 1) (b := 0) (by omega)) ?_
        refine lv_iload_n hx hb dX6_move_73 rfl (lv_at hl 4 rfl) ?_
        refine wo_sI (As := [.int (nI bb), .int (nI (1 - 0)), .int (nI pp)]) (rest := [.ref (ad 4)]) (kX6_at l dC dI ca ad (sL S 4 (12 * bb + 6 * 0 + pp) ((S.2 4 (12 * bb + 6 * 0 + pp)) - vv)) bb (1 - 0) pp) ⟨hx, hb, hml, hown, hts⟩ (va_cwS 3 hts (wa_gS wd_680 wd_681 wd_8 wd_682) rfl rfl rfl (by decide +kernel) ⟨Nat.le_of_ble_eq_true rfl, Nat.le_of_ble_eq_true rfl⟩) hK hw hA rfl hl.1 rfl (Nat.le_of_ble_eq_true rfl) dX6_move_74 ⟨Nat.zero_le _, Nat.zero_le _⟩ (fun r_11 S_11 H locs hp_11 hw => ?_)
        have e9 := hp_11.1.symm
        subst e9
        have e9 := hp_11.2.symm
        subst e9
        refine lv_dup2_11 hx hb dX6_move_77 rfl rfl ?_
        refine wo_lald hx hb hK hw 4 1 rfl rfl (12 * bb + 6 * (1 - 0) + pp) rfl (by first | assumption | omega) (by decide) dX6_move_78 ?_
        refine lv_lload hx hb dX6_move_79 (lv_at hl 0 rfl) ?_
        refine lv_ladd hx hb dX6_move_81 ?_
        refine wo_last hx hb hK hw 4 1 rfl rfl (12 * bb + 6 * (1 - 0) + pp) rfl (by first | assumption | omega) (by decide) (sm_4 ca ad (sL S 4 (12 * bb + 6 * 0 + pp) ((S.2 4 (12 * bb + 6 * 0 + pp)) - vv)) (12 * bb + 6 * (1 - 0) + pp) (((sL S 4 (12 * bb + 6 * 0 + pp) ((S.2 4 (12 * bb + 6 * 0 + pp)) - vv)).2 4 (12 * bb + 6 * (1 - 0) + pp)) + vv)) dX6_move_82 (fun H locs hw => ?_)
        refine lv_aload_n hx hb dX6_move_83 rfl (lv_at hl 2 rfl) ?_
        refine wo_get hx hb hts inX6 hown hK hw 0 rfl rfl 3 (by decide) (hts _ wd_568) (fun _ h9 => h9) rfl dX6_move_84 ?_
        refine lv_iload_n hx hb dX6_move_87 rfl (lv_at hl 3 rfl) ?_
        refine lv_dup2_11 hx hb dX6_move_88 rfl rfl ?_
        refine wo_lald hx hb hK hw 2 1 rfl rfl bb rfl (by first | assumption | omega) (by decide) dX6_move_89 ?_
        refine lv_lload_n hx hb dX6_move_90 rfl (lv_at hl 5 rfl) ?_
        refine lv_lsub hx hb dX6_move_91 ?_
        refine wo_last hx hb hK hw 2 1 rfl rfl bb rfl (by first | assumption | omega) (by decide) (sm_2 ca ad (sL (sL S 4 (12 * bb + 6 * 0 + pp) ((S.2 4 (12 * bb + 6 * 0 + pp)) - vv)) 4 (12 * bb + 6 * (1 - 0) + pp) (((sL S 4 (12 * bb + 6 * 0 + pp) ((S.2 4 (12 * bb + 6 * 0 + pp)) - vv)).2 4 (12 * bb + 6 * (1 - 0) + pp)) + vv)) bb (((sL (sL S 4 (12 * bb + 6 * 0 + pp) ((S.2 4 (12 * bb + 6 * 0 + pp)) - vv)) 4 (12 * bb + 6 * (1 - 0) + pp) (((sL S 4 (12 * bb + 6 * 0 + pp) ((S.2 4 (12 * bb + 6 * 0 + pp)) - vv)).2 4 (12 * bb + 6 * (1 - 0) + pp)) + vv)).2 2 bb) - vv)) dX6_move_92 (fun H locs hw => ?_)
        refine lv_aload_n hx hb dX6_move_93 rfl (lv_at hl 2 rfl) ?_
        refine lv_dup hx hb dX6_move_94 rfl ?_
        refine wo_get hx hb hts inX6 hown hK hw 0 rfl rfl 22 (by decide) (hts _ wd_587) (fun _ h9 => h9) rfl dX6_move_95 ?_
        refine lv_iconst (v := nI 1) hx hb dX6_move_98 (by decide) ?_
        refine lv_iadd hx hb dX6_move_99 ?_
        refine wo_put (ty := .int) (v := .int (((sL (sL (sL S 4 (12 * bb + 6 * 0 + pp) ((S.2 4 (12 * bb + 6 * 0 + pp)) - vv)) 4 (12 * bb + 6 * (1 - 0) + pp) (((sL S 4 (12 * bb + 6 * 0 + pp) ((S.2 4 (12 * bb + 6 * 0 + pp)) - vv)).2 4 (12 * bb + 6 * (1 - 0) + pp)) + vv)) 2 bb (((sL (sL S 4 (12 * bb + 6 * 0 + pp) ((S.2 4 (12 * bb + 6 * 0 + pp)) - vv)) 4 (12 * bb + 6 * (1 - 0) + pp) (((sL S 4 (12 * bb + 6 * 0 + pp) ((S.2 4 (12 * bb + 6 * 0 + pp)) - vv)).2 4 (12 * bb + 6 * (1 - 0) + pp)) + vv)).2 2 bb) - vv)).1 0 22) + (nI 1))) hx hb hts inX6 tyX6 tyX6_ok nmX6 hown hK hw 0 rfl rfl 22 (by decide) (hts _ wd_587) (fun _ h9 => h9) rfl (by decide +kernel) rfl rfl (Nat.le_of_ble_eq_true rfl) (sg_22 ca ad (sL (sL (sL S 4 (12 * bb + 6 * 0 + pp) ((S.2 4 (12 * bb + 6 * 0 + pp)) - vv)) 4 (12 * bb + 6 * (1 - 0) + pp) (((sL S 4 (12 * bb + 6 * 0 + pp) ((S.2 4 (12 * bb + 6 * 0 + pp)) - vv)).2 4 (12 * bb + 6 * (1 - 0) + pp)) + vv)) 2 bb (((sL (sL S 4 (12 * bb + 6 * 0 + pp) ((S.2 4 (12 * bb + 6 * 0 + pp)) - vv)) 4 (12 * bb + 6 * (1 - 0) + pp) (((sL S 4 (12 * bb + 6 * 0 + pp) ((S.2 4 (12 * bb + 6 * 0 + pp)) - vv)).2 4 (12 * bb + 6 * (1 - 0) + pp)) + vv)).2 2 bb) - vv)) (((sL (sL (sL S 4 (12 * bb + 6 * 0 + pp) ((S.2 4 (12 * bb + 6 * 0 + pp)) - vv)) 4 (12 * bb + 6 * (1 - 0) + pp) (((sL S 4 (12 * bb + 6 * 0 + pp) ((S.2 4 (12 * bb + 6 * 0 + pp)) - vv)).2 4 (12 * bb + 6 * (1 - 0) + pp)) + vv)) 2 bb (((sL (sL S 4 (12 * bb + 6 * 0 + pp) ((S.2 4 (12 * bb + 6 * 0 + pp)) - vv)) 4 (12 * bb + 6 * (1 - 0) + pp) (((sL S 4 (12 * bb + 6 * 0 + pp) ((S.2 4 (12 * bb + 6 * 0 + pp)) - vv)).2 4 (12 * bb + 6 * (1 - 0) + pp)) + vv)).2 2 bb) - vv)).1 0 22) + (nI 1))) dX6_move_100 (fun H locs hw => ?_)
        refine lv_iconst (v := nI 1) hx hb dX6_move_103 (by decide) ?_
        exact ct_zret (S := sI (sL (sL (sL S 4 (12 * bb + 6 * 0 + pp) ((S.2 4 (12 * bb + 6 * 0 + pp)) - vv)) 4 (12 * bb + 6 * (1 - 0) + pp) (((sL S 4 (12 * bb + 6 * 0 + pp) ((S.2 4 (12 * bb + 6 * 0 + pp)) - vv)).2 4 (12 * bb + 6 * (1 - 0) + pp)) + vv)) 2 bb (((sL (sL S 4 (12 * bb + 6 * 0 + pp) ((S.2 4 (12 * bb + 6 * 0 + pp)) - vv)) 4 (12 * bb + 6 * (1 - 0) + pp) (((sL S 4 (12 * bb + 6 * 0 + pp) ((S.2 4 (12 * bb + 6 * 0 + pp)) - vv)).2 4 (12 * bb + 6 * (1 - 0) + pp)) + vv)).2 2 bb) - vv)) 0 22 (((sL (sL (sL S 4 (12 * bb + 6 * 0 + pp) ((S.2 4 (12 * bb + 6 * 0 + pp)) - vv)) 4 (12 * bb + 6 * (1 - 0) + pp) (((sL S 4 (12 * bb + 6 * 0 + pp) ((S.2 4 (12 * bb + 6 * 0 + pp)) - vv)).2 4 (12 * bb + 6 * (1 - 0) + pp)) + vv)) 2 bb (((sL (sL S 4 (12 * bb + 6 * 0 + pp) ((S.2 4 (12 * bb + 6 * 0 + pp)) - vv)) 4 (12 * bb + 6 * (1 - 0) + pp) (((sL S 4 (12 * bb + 6 * 0 + pp) ((S.2 4 (12 * bb + 6 * 0 + pp)) - vv)).2 4 (12 * bb + 6 * (1 - 0) + pp)) + vv)).2 2 bb) - vv)).1 0 22) + (nI 1))) (v := nI 1) hx hb hr hlocks hK (by first | decide | exact nb_z _) hw (⟨by simp only [bI, mmvOk, c_1, c_7, c_9, decide_true, decide_false, Bool.not_true, Bool.not_false, Bool.true_and, Bool.and_true, Bool.false_and, Bool.and_false, Bool.or_true, Bool.true_or, Bool.or_false, Bool.false_or, Bool.false_eq_true, Bool.true_eq_false, if_true, if_false, ↓reduceIte], by simp only [mmvOk, mmvS, mmv1, mmv2, c_1, c_7, c_9, decide_true, decide_false, Bool.not_true, Bool.not_false, Bool.true_and, Bool.and_true, Bool.false_and, Bool.and_false, Bool.or_true, Bool.true_or, Bool.or_false, Bool.false_or, Bool.false_eq_true, Bool.true_eq_false, if_true, if_false, ↓reduceIte]⟩) dX6_move_104
      · skip
        refine lv_iconst (v := nI 0) hx hb dX6_move_45 (by decide) ?_
        exact ct_zret (S := S) (v := nI 0) hx hb hr hlocks hK (by first | decide | exact nb_z _) hw (⟨by simp only [bI, mmvOk, c_1, c_7, c_9, decide_true, decide_false, Bool.not_true, Bool.not_false, Bool.true_and, Bool.and_true, Bool.false_and, Bool.and_false, Bool.or_true, Bool.true_or, Bool.or_false, Bool.false_or, Bool.false_eq_true, Bool.true_eq_false, if_true, if_false, ↓reduceIte], by simp only [mmvOk, mmvS, mmv1, mmv2, c_1, c_7, c_9, decide_true, decide_false, Bool.not_true, Bool.not_false, Bool.true_and, Bool.and_true, Bool.false_and, Bool.and_false, Bool.or_true, Bool.true_or, Bool.or_false, Bool.false_or, Bool.false_eq_true, Bool.true_eq_false, if_true, if_false, ↓reduceIte]⟩) dX6_move_46
end
