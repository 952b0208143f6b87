/-- an array class over arrays of t has been made (the printed row va_mna asks it under this name) -/
def va_AOA (t : FieldType) (U : State) : Prop := ∀ a : Array Value, (Cond.arrayOver (.array t)).before a U = true
theorem va_AOA.use {t : FieldType} {A : Array Value} {U : State} (h : va_AOA t U) : (Cond.arrayOver (.array t)).before A U = true := h A
theorem va_AOA.of {t : FieldType} {A : Array Value} {U : State} (h : (Cond.arrayOver (.array t)).before A U = true) : va_AOA t U := fun _ => h
theorem va_AOA.moved {t : FieldType} {u U : State} (hvm : u.vm.Alike U.vm) (h : va_AOA t u) : va_AOA t U := fun a => (Cond.arrayOver_setVmC (args := a) (s := u) hvm (.array t)).trans (h a)
