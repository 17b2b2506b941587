/-! contracts of methods that read alone -/
def PS_ (cs : Nat → Nat) (A : Nat → Prop) (a : Array Value) : Array Value → State → Prop := fun v U => v = a ∧ XS_ cs A U
def PT1_ (cs : Nat → Nat) (A : Nat → Prop) (t n : Nat) (f : Nat → Value) (a : Array Value) : Array Value → State → Prop := fun v U => v = a ∧ va_T .byte t n f A U U.heap ∧ XS_ cs A U
def QS_ (r : Option Value) : Array Value → State → Outcome → State → Prop := fun _ st oc t => oc = .returned r ∧ t.heap = st.heap
theorem psb_ {cs : Nat → Nat} {A : Nat → Prop} {a : Array Value} : FrameBlind (PS_ cs A a) := fun b U g mk q => ⟨q.1, XS_same (s := U) (U := U.calling g mk b) rfl rfl q.2⟩
theorem ptb_ {cs : Nat → Nat} {A : Nat → Prop} {t n : Nat} {f : Nat → Value} {a : Array Value} : FrameBlind (PT1_ cs A t n f a) := fun b U g mk q => ⟨q.1, va_T.moved (u := U) (U := U.calling g mk b) (Vm.Alike.refl U.vm) q.2.1, XS_same (s := U) (U := U.calling g mk b) rfl rfl q.2.2⟩
