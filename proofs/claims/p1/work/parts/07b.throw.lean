/-! the words of a throw -/
set_option maxRecDepth 100000 in
theorem at_IAE_g : (vx_atS RX5 328 (mj_xn 0) ["java/lang/RuntimeException", "java/lang/Exception"]).filter goodWord = ([44, 453, 462, 466, 469, 471, 454, 455, 63, 64, 456, 461, 467, 487, 443, 488, 445, 489, 447, 457, 459, 449, 483, 484, 486, 449, 474, 475, 476, 477, 477, 478, 479, 480, 480, 481, 482, 483, 473, 432, 440, 441, 442, 444, 446, 448, 452, 451, 450] : List Nat).filterMap (fun i => lw_tbl[i]?) := by decide +kernel
set_option maxRecDepth 100000 in
theorem at_IAE_b : (vx_atS RX5 328 (mj_xn 0) ["java/lang/RuntimeException", "java/lang/Exception"]).filter (fun w => !goodWord w) = [Cond.declares ⟨"java/lang/RuntimeException", "<init>", "(Ljava/lang/String;)V"⟩, Cond.declares ⟨"java/lang/Exception", "<init>", "(Ljava/lang/String;)V"⟩, Cond.declares ⟨"java/lang/Throwable", "<init>", "(Ljava/lang/String;)V"⟩, Cond.castable "java/lang/IllegalArgumentException" "java/lang/IllegalArgumentException"] := by decide +kernel
theorem at_IAE (s : State) (args : Array Value) (ht : ∀ w ∈ mj_TW, w.before args s = true) (hx : mj_XW s) : ∀ w ∈ vx_atS RX5 328 (mj_xn 0) ["java/lang/RuntimeException", "java/lang/Exception"], w.before args s = true := by
  refine vx_hat (B := [Cond.declares ⟨"java/lang/RuntimeException", "<init>", "(Ljava/lang/String;)V"⟩, Cond.declares ⟨"java/lang/Exception", "<init>", "(Ljava/lang/String;)V"⟩, Cond.declares ⟨"java/lang/Throwable", "<init>", "(Ljava/lang/String;)V"⟩, Cond.castable "java/lang/IllegalArgumentException" "java/lang/IllegalArgumentException"]) (fun w hw => ?_) (fun w hw => by rw [at_IAE_b] at hw; exact hw) ?_
  · have hg := (List.mem_filter.mp hw).2
    rw [at_IAE_g] at hw
    obtain ⟨i, -, hi⟩ := List.mem_filterMap.mp hw
    exact ht w (List.mem_filter.mpr ⟨List.mem_of_getElem? hi, hg⟩)
  · exact vx_c (va_Nw.use rfl (mj_XW.dec0 hx)) (vx_c (va_Nw.use rfl (mj_XW.dec1 hx)) (vx_c (va_Nw.use rfl (mj_XW.dec2 hx)) (vx_c (va_Nw.use rfl (mj_XW.cast0 hx)) vx_n)))
set_option maxRecDepth 100000 in
theorem at_IAE_ot : ∀ w ∈ vx_atS RX5 328 (mj_xn 0) ["java/lang/RuntimeException", "java/lang/Exception"], vx_ot w = true := List.all_eq_true.mp (by decide +kernel)
set_option maxRecDepth 100000 in
theorem at_IOB_g : (vx_atS RX5 230 (mj_xn 1) ["java/lang/RuntimeException", "java/lang/Exception"]).filter goodWord = ([44, 453, 462, 466, 469, 471, 454, 455, 63, 64, 456, 461, 467, 487, 443, 488, 445, 489, 447, 457, 459, 449, 483, 484, 486, 449, 525, 526, 527, 477, 477, 478, 479, 480, 480, 481, 482, 483, 524, 515, 517, 465, 518, 519, 520, 521, 452, 451, 522] : List Nat).filterMap (fun i => lw_tbl[i]?) := by decide +kernel
set_option maxRecDepth 100000 in
theorem at_IOB_b : (vx_atS RX5 230 (mj_xn 1) ["java/lang/RuntimeException", "java/lang/Exception"]).filter (fun w => !goodWord w) = [Cond.declares ⟨"java/lang/RuntimeException", "<init>", "(Ljava/lang/String;)V"⟩, Cond.declares ⟨"java/lang/Exception", "<init>", "(Ljava/lang/String;)V"⟩, Cond.declares ⟨"java/lang/Throwable", "<init>", "(Ljava/lang/String;)V"⟩, Cond.castable "java/lang/IndexOutOfBoundsException" "java/lang/IndexOutOfBoundsException"] := by decide +kernel
theorem at_IOB (s : State) (args : Array Value) (ht : ∀ w ∈ mj_TW, w.before args s = true) (hx : mj_XW s) : ∀ w ∈ vx_atS RX5 230 (mj_xn 1) ["java/lang/RuntimeException", "java/lang/Exception"], w.before args s = true := by
  refine vx_hat (B := [Cond.declares ⟨"java/lang/RuntimeException", "<init>", "(Ljava/lang/String;)V"⟩, Cond.declares ⟨"java/lang/Exception", "<init>", "(Ljava/lang/String;)V"⟩, Cond.declares ⟨"java/lang/Throwable", "<init>", "(Ljava/lang/String;)V"⟩, Cond.castable "java/lang/IndexOutOfBoundsException" "java/lang/IndexOutOfBoundsException"]) (fun w hw => ?_) (fun w hw => by rw [at_IOB_b] at hw; exact hw) ?_
  · have hg := (List.mem_filter.mp hw).2
    rw [at_IOB_g] at hw
    obtain ⟨i, -, hi⟩ := List.mem_filterMap.mp hw
    exact ht w (List.mem_filter.mpr ⟨List.mem_of_getElem? hi, hg⟩)
  · exact vx_c (va_Nw.use rfl (mj_XW.dec0 hx)) (vx_c (va_Nw.use rfl (mj_XW.dec1 hx)) (vx_c (va_Nw.use rfl (mj_XW.dec2 hx)) (vx_c (va_Nw.use rfl (mj_XW.cast1 hx)) vx_n)))
set_option maxRecDepth 100000 in
theorem at_IOB_ot : ∀ w ∈ vx_atS RX5 230 (mj_xn 1) ["java/lang/RuntimeException", "java/lang/Exception"], vx_ot w = true := List.all_eq_true.mp (by decide +kernel)
