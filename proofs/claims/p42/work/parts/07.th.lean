theorem th_298 : TH 294 298 "java/lang/IllegalArgumentException" := ⟨lX6_294, zjava_lang_IllegalArgumentException, by decide +kernel, rfl⟩
theorem th_89 : TH 85 89 "java/lang/IllegalStateException" := ⟨lX6_85, zjava_lang_IllegalStateException, by decide +kernel, rfl⟩
theorem th_197 : TH 193 197 "java/lang/IndexOutOfBoundsException" := ⟨lX6_193, zjava_lang_IndexOutOfBoundsException, by decide +kernel, rfl⟩
theorem th_267 : TH 263 267 "java/lang/ArithmeticException" := ⟨lX6_263, zjava_lang_ArithmeticException, by decide +kernel, rfl⟩
