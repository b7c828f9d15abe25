/-! ===== new cells ===== -/
theorem len_si (w : x_W) (a k : Nat) (v : Int32) : (x_si w a k v).1.length = w.1.length := Eq.trans rfl rfl
