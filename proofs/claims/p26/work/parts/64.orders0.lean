abbrev mc_L_orders : Nat := 463
abbrev ms_L_orders : Nat := 12427
abbrev Q_L_orders (dC : Nat → ClassId) (dI : Nat → Nat → Nat) (cI : ClassId) (A : Nat → Prop) (post : Int32 → Prop) : Array Value → State → Outcome → State → Prop := va_Qi (fun (r : Int32) (_ : Unit) => post r) (fun (_ : Unit) (_ : State) => True) A
abbrev rm_L_orders : Room := { frames := 10, cells := 463, slots := 12427, locals := 234 }
