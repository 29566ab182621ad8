abbrev mc_L_queries : Nat := 549
abbrev ms_L_queries : Nat := 12943
abbrev Q_L_queries (dC : Nat → ClassId) (dI : Nat → Nat → Nat) (cI : ClassId) (A : Nat → Prop) (post : Int32 → Prop) : Array Value → State → Outcome → State → Prop := va_Qi (fun (r : Int32) (_ : Unit) => post r) (fun (_ : Unit) (_ : State) => True) A
abbrev rm_L_queries : Room := { frames := 10, cells := 549, slots := 12943, locals := 234 }
