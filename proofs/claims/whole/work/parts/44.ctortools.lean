def sq_it (x : Int32) : Int32 := if (x &&& 7) = 7 then 6 else x &&& 7
def sq_od (x : Int32) : Int32 := if (x &&& 127) = 0 then 1 else x &&& 127
theorem kz_caI {D : va_G} {tys : kz_Y} {U : State} {i j : Nat} {a b : ClassId} (h : va_K D vwCl tys U) (hi : tys[i]? = some (a, .int)) (hj : tys[j]? = some (b, .int)) : a = b := by
  have h1 : U.vm.findClass ("[" ++ FieldType.int.toString) = some a := (h.2 i _ hi).2
  have h2 : U.vm.findClass ("[" ++ FieldType.int.toString) = some b := (h.2 j _ hj).2
  exact Option.some.inj (h1.symm.trans h2)
theorem kz_caZ {D : va_G} {tys : kz_Y} {U : State} {i j : Nat} {a b : ClassId} (h : va_K D vwCl tys U) (hi : tys[i]? = some (a, .boolean)) (hj : tys[j]? = some (b, .boolean)) : a = b := by
  have h1 : U.vm.findClass ("[" ++ FieldType.boolean.toString) = some a := (h.2 i _ hi).2
  have h2 : U.vm.findClass ("[" ++ FieldType.boolean.toString) = some b := (h.2 j _ hj).2
  exact Option.some.inj (h1.symm.trans h2)
