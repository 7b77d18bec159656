def ex_L (x : String) : List Cond := [.castable x x, .declares (Bundle.initS "java/lang/RuntimeException"), .declares (Bundle.initS "java/lang/Exception"), .declares (Bundle.initS "java/lang/Throwable"), .isRef (.static Bundle.tN "UNASSIGNED_STACK" Bundle.steD), .isRef (.static Bundle.tN "SUPPRESSED_SENTINEL" Bundle.listD), .laysStatic Bundle.tN "UNASSIGNED_STACK" Bundle.steD, .laysStatic Bundle.tN "SUPPRESSED_SENTINEL" Bundle.listD]
def ex_up : List String := ["java/lang/RuntimeException", "java/lang/Exception"]
theorem ex_Lok {A : Nat → Prop} {s : State} {args : Array Value} {x : String} (hx : x ∈ ex_E) (hZ : ex_Z A s s.heap) : ∀ w ∈ ex_L x, w.before args s = true := by
  intro w hw
  have d : ∀ z ∈ ex_D, (Cond.declares (Bundle.initS z)).before args s = true := fun z hz => va_Nw.use rfl (hZ.2.1 z hz)
  simp only [ex_L, List.mem_cons, List.not_mem_nil, or_false] at hw
  rcases hw with rfl | rfl | rfl | rfl | rfl | rfl | rfl | rfl
  · exact va_Nw.use rfl (hZ.1 x hx)
  · exact d _ (by simp [ex_D])
  · exact d _ (by simp [ex_D])
  · exact d _ (by simp [ex_D])
  · exact hZ.2.2.2.2.1.isRef
  · exact hZ.2.2.2.2.2.isRef
  · exact hZ.2.2.2.2.1.lays
  · exact hZ.2.2.2.2.2.lays
theorem ex_in1 : ∀ w ∈ Bundle.ownAtomsX "LentBounds" 62 "java/lang/IllegalArgumentException" 7 Bundle.six ex_up, w ∈ wa_T ∨ w ∈ ex_L "java/lang/IllegalArgumentException" := by decide +kernel
theorem ex_in2 : ∀ w ∈ Bundle.ownAtomsX "LentBounds" 76 "java/lang/ArithmeticException" 7 Bundle.six ex_up, w ∈ wa_T ∨ w ∈ ex_L "java/lang/ArithmeticException" := by decide +kernel
theorem ex_in3 : ∀ w ∈ Bundle.ownAtomsX "LentBounds" 85 "java/lang/IllegalStateException" 7 Bundle.six ex_up, w ∈ wa_T ∨ w ∈ ex_L "java/lang/IllegalStateException" := by decide +kernel
theorem ex_in4 : ∀ w ∈ Bundle.ownAtomsX "LentBounds" 195 "java/util/NoSuchElementException" 13 prog_19_method_4_code ex_up, w ∈ wa_T ∨ w ∈ ex_L "java/util/NoSuchElementException" := by decide +kernel
theorem ex_all {A : Nat → Prop} {s : State} {args : Array Value} {x : String} {L : List Cond} (hx : x ∈ ex_E) (h : ∀ w ∈ L, w ∈ wa_T ∨ w ∈ ex_L x) (hts : ∀ w ∈ wa_T, w.before args s = true) (hZ : ex_Z A s s.heap) : ∀ w ∈ L, w.before args s = true := fun w hw => (h w hw).elim (hts w) (ex_Lok hx hZ w)
theorem ex_six : decode Bundle.six 0 = .ok (.aload_n 0, 1) ∧ decode Bundle.six 1 = .ok (.aload_n 1, 1) ∧ decode Bundle.six 2 = .ok (.invokespecial 7, 3) ∧ decode Bundle.six 5 = .ok (.return_, 1) := ⟨Bundle.six_0, Bundle.six_1, Bundle.six_2, Bundle.six_5⟩
theorem ex_rx : decode prog_19_method_4_code 0 = .ok (.aload_n 0, 1) ∧ decode prog_19_method_4_code 1 = .ok (.aload_n 1, 1) ∧ decode prog_19_method_4_code 2 = .ok (.invokespecial 13, 3) ∧ decode prog_19_method_4_code 5 = .ok (.return_, 1) := by decide +kernel
theorem ex_fit : ∀ x ∈ ex_E, Bundle.fit x = true ∧ ∀ n ∈ ex_up, Bundle.fit n = true := by decide +kernel
