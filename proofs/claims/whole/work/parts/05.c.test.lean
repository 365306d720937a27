theorem zz_t1 (s : State) (c comp : ClassId) (N M : Nat) (dv : Value) : (Jvm.Free.Multi.fill s c comp N M dv 0).heap.size = s.heap.size + 1 := (Jvm.Free.Multi.fill_facts s c comp N M dv 0).1
theorem zz_t2 : True := by
  have := @Jvm.Stand.multianewarray2F
  trivial
