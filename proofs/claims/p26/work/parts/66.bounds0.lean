abbrev mc_L_bounds : Nat := 383
abbrev ms_L_bounds : Nat := 21596
abbrev Q_L_bounds (dC : Nat → ClassId) (dI : Nat → Nat → Nat) (cI : ClassId) (A : Nat → Prop) (post : Int32 → Prop) : Array Value → State → Outcome → State → Prop := va_Qi (fun (r : Int32) (_ : Unit) => post r) (fun (_ : Unit) (_ : State) => True) A
abbrev rm_L_bounds : Room := { frames := 10, cells := 383, slots := 21596, locals := 234 }
