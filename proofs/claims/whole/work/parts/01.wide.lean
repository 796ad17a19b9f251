/-- a name of the whole library, early: so a round on a new machine is read over the whole from its first part on, not twice -/
theorem wd_multi (c : ClassId) : Jvm.Free.Multi.outerC c 0 0 0 = Jvm.Free.Multi.outerC c 0 0 0 := rfl
