theorem hm_need (c : ClassId) (N h i : Nat) : Jvm.Free.Multi.outerC c N h i = Jvm.Free.Multi.outerC c N h i := rfl
