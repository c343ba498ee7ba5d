/-! what a throw wants of the tables -/
theorem zdecl {s : State} {x : MethodName} {a : Array Value} {b : ByteArray} {m : Nat} {ret : Option FieldType} (hi : (Cond.instanceMethod x).before a s = true) (hc : (Cond.code x b m ret).before a s = true) : (Cond.declares x).before a s = true := by
  obtain ⟨r0, r, h1, h2, h3, h4⟩ := va_Decl.of hi hc
  simp [Cond.before, Cond.holds, Cond.value, h1, h2, h3, h4]
abbrev zNm : List String := ["java/lang/RuntimeException", "java/lang/Exception"]
def zBad (E : String) : List Cond := [Cond.castable E E, .declares (Bundle.initS "java/lang/RuntimeException"), .declares (Bundle.initS "java/lang/Exception"), .declares (Bundle.initS Bundle.tN)]
theorem zr1 : (.instanceMethod (Bundle.initS "java/lang/RuntimeException") : Cond) ∈ zB := zmem (by decide +kernel) (by decide +kernel)
theorem zr2 : (.code (Bundle.initS "java/lang/RuntimeException") Bundle.six 2 none : Cond) ∈ zB := zmem (by decide +kernel) (by decide +kernel)
theorem zr3 : (.instanceMethod (Bundle.initS "java/lang/Exception") : Cond) ∈ zB := zmem (by decide +kernel) (by decide +kernel)
theorem zr4 : (.code (Bundle.initS "java/lang/Exception") Bundle.six 2 none : Cond) ∈ zB := zmem (by decide +kernel) (by decide +kernel)
theorem zr5 : (.instanceMethod (Bundle.initS Bundle.tN) : Cond) ∈ zB := zmem (by decide +kernel) (by decide +kernel)
theorem zr6 : (.code (Bundle.initS Bundle.tN) Jvm.LibCode.Throwable.InitS.code 2 none : Cond) ∈ zB := zmem (by decide +kernel) (by decide +kernel)
theorem zhat {own E : String} {ic : Nat} {s : State} {args : Array Value} (hg : ∀ w ∈ (vx_atS own ic E zNm).filter goodWord, w ∈ zB) (hb : ∀ w ∈ (vx_atS own ic E zNm).filter (fun w => !goodWord w), w ∈ zBad E) (hts : ∀ w ∈ zB, w.before args s = true) (hc : zCast E E s) : ∀ w ∈ vx_atS own ic E zNm, w.before args s = true :=
  vx_hat (fun w hw => hts w (hg w hw)) hb (vx_c hc.use (vx_c (zdecl (hts _ zr1) (hts _ zr2)) (vx_c (zdecl (hts _ zr3) (hts _ zr4)) (vx_c (zdecl (hts _ zr5) (hts _ zr6)) vx_n))))
/-- the good words of a throw, by their places in the tables -/
theorem zhatm {ws : List Cond} (ps : List Nat) (h : ws.filter goodWord = ps.filterMap (fun i => lw_tbl[i]?)) : ∀ w ∈ ws.filter goodWord, w ∈ zB := fun w hw => by
  obtain ⟨i, _, e⟩ := List.mem_filterMap.mp (show w ∈ ps.filterMap (fun i => lw_tbl[i]?) from h ▸ hw)
  exact zmem (List.mem_of_getElem? e) (List.mem_filter.mp hw).2
