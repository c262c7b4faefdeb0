theorem all_ap {P : Cond → Prop} {a b : List Cond} (ha : ∀ w ∈ a, P w) (hb : ∀ w ∈ b, P w) : ∀ w ∈ a ++ b, P w := fun w h => (List.mem_append.mp h).elim (ha w) (hb w)
theorem all_co {P : Cond → Prop} {c : Cond} {b : List Cond} (hc : P c) (hb : ∀ w ∈ b, P w) : ∀ w ∈ c :: b, P w := fun w h => (List.mem_cons.mp h).elim (fun e => e.symm ▸ hc) (hb w)
theorem goodIn_c7 {big a : List Cond} {y : MethodName} {cc : ByteArray} {n : Nat} {r : Option FieldType} (h : Cond.code y cc n r ∈ big) (ha : GoodIn big a) : GoodIn big (Cond.code y cc n r :: a) := by
  intro w hw
  rcases List.mem_cons.mp hw with rfl | hw
  · exact ⟨h, Or.inl rfl⟩
  · exact ha w hw
