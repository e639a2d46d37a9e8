/-! texts, the iterator by its face, the chain of exceptions: words that are not among the good ones -/
def mj_XS (s : State) : Prop := (∃ a, vk_R RX5 326 "out of its bounds" a s) ∧ (∃ a, vk_R RX5 329 "no such lift" a s) ∧ (∃ a, vk_R RX5 331 "no such run" a s) ∧ va_Fw "java/util/ArrayList$Itr" ⟨"java/util/Iterator", "hasNext", "()Z"⟩ yJx35411_hasNext_aae02 s ∧ va_Nw (.declares ⟨"java/lang/RuntimeException", "<init>", "(Ljava/lang/String;)V"⟩) s ∧ va_Nw (.declares ⟨"java/lang/Exception", "<init>", "(Ljava/lang/String;)V"⟩) s ∧ va_Nw (.declares ⟨"java/lang/Throwable", "<init>", "(Ljava/lang/String;)V"⟩) s
theorem mj_XS.warm {s U : State} (hW : s.WarmedH U.vm) (h : mj_XS s) : mj_XS U := by
  obtain ⟨h0, h1, h2, h3, h4, h5, h6⟩ := h
  exact ⟨h0.imp fun _ z => vk_R.warm hW z, h1.imp fun _ z => vk_R.warm hW z, h2.imp fun _ z => vk_R.warm hW z, va_Fw.moved (by decide) hW.alike h3, va_Nw.warmD hW h4, va_Nw.warmD hW h5, va_Nw.warmD hW h6⟩
