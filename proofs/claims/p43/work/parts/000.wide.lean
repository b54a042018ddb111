theorem zz_wide (cA : ClassId) : Jvm.Free.Multi.outerC cA 4 0 0 = Jvm.Free.Multi.outerC cA 4 0 0 := rfl
