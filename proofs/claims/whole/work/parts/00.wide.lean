/-! A name that only the wide library knows stands first, so that a round on a new machine is a wide one from its start (part 06.ctor wants it) and compiles nothing twice. -/
theorem zWide (c : ClassId) (N h0 i : Nat) : Jvm.Free.Multi.outerC c N h0 i = Jvm.Free.Multi.outerC c N h0 i := rfl
