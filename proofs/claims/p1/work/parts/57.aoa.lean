-- arrays over arrays: what a table of rows needs
def va_AOA (ty : FieldType) (U : State) : Prop := (Cond.arrayOver (.array ty)).before #[] U = true
theorem va_AOA.of {ty : FieldType} {A : Array Value} {U : State} (h : (Cond.arrayOver (.array ty)).before A U = true) : va_AOA ty U := h
theorem va_AOA.use {ty : FieldType} {A : Array Value} {U : State} (h : va_AOA ty U) : (Cond.arrayOver (.array ty)).before A U = true := h
theorem va_AOA.warm {ty : FieldType} {s U : State} (hW : s.WarmedH U.vm) (h : va_AOA ty s) : va_AOA ty U := by
  have e := Cond.arrayOver_setVmC (args := #[]) (s := s) hW.alike (.array ty)
  have h2 : (Cond.arrayOver (.array ty)).before #[] (s.setVm U.vm) = true := e.trans h
  exact h2
def zAE (_ : Nat → Prop) (U : State) : Prop := va_AOA .long U
theorem zAE_ok : zOK zAE := fun _ _ _ _ h _ _ hW => va_AOA.warm hW h
