/-! shares of a whole as floats: what rounding answers, in any format -/
theorem fp_pw {A B x y x' y' : Nat} (h : x + y' = x' + y) : A * 2 ^ x ≤ B * 2 ^ y ↔ A * 2 ^ x' ≤ B * 2 ^ y' := by
  have p1 : 0 < 2 ^ y' := Nat.two_pow_pos _
  have p2 : 0 < 2 ^ y := Nat.two_pow_pos _
  have e1 : A * 2 ^ x * 2 ^ y' = A * 2 ^ x' * 2 ^ y := by rw [Nat.mul_assoc, Nat.mul_assoc, ← Nat.pow_add, ← Nat.pow_add, h]
  have e2 : B * 2 ^ y * 2 ^ y' = B * 2 ^ y' * 2 ^ y := by rw [Nat.mul_assoc, Nat.mul_assoc, Nat.mul_comm (2 ^ y)]
  constructor
  · intro k
    have k2 := Nat.mul_le_mul_right (2 ^ y') k
    rw [e1, e2] at k2
    exact Nat.le_of_mul_le_mul_right k2 p2
  · intro k
    have k2 := Nat.mul_le_mul_right (2 ^ y) k
    rw [← e1, ← e2] at k2
    exact Nat.le_of_mul_le_mul_right k2 p1
theorem fp_pl {A B x y x' y' : Nat} (h : x + y' = x' + y) : A * 2 ^ x < B * 2 ^ y ↔ A * 2 ^ x' < B * 2 ^ y' := by
  rw [← Nat.not_le, ← Nat.not_le, fp_pw (A := B) (B := A) (x := y) (y := x) (x' := y') (y' := x') (by omega)]
/-- the exponent of the leading digit, as a difference -/
theorem fp_lead {num den : Nat} (hn : 0 < num) (hd : 0 < den) : ∃ a b : Nat, FP.Core.leading num den = (a : Int) - (b : Int) ∧ den * 2 ^ a ≤ num * 2 ^ b ∧ num * 2 ^ b < den * 2 ^ (a + 1) := by
  have hn0 : num ≠ 0 := by omega
  have hd0 : den ≠ 0 := by omega
  have l1 : 2 ^ num.log2 ≤ num := (Nat.le_log2 hn0).mp (Nat.le_refl _)
  have l2 : num < 2 ^ (num.log2 + 1) := (Nat.log2_lt hn0).mp (Nat.lt_succ_self _)
  have l3 : 2 ^ den.log2 ≤ den := (Nat.le_log2 hd0).mp (Nat.le_refl _)
  have l4 : den < 2 ^ (den.log2 + 1) := (Nat.log2_lt hd0).mp (Nat.lt_succ_self _)
  have hk : FP.Core.leading num den = if den * 2 ^ ((num.log2 : Int) - (den.log2 : Int)).toNat ≤ num * 2 ^ (-((num.log2 : Int) - (den.log2 : Int))).toNat then ((num.log2 : Int) - (den.log2 : Int)) else ((num.log2 : Int) - (den.log2 : Int)) - 1 := rfl
  have ht : den * 2 ^ ((num.log2 : Int) - (den.log2 : Int)).toNat ≤ num * 2 ^ (-((num.log2 : Int) - (den.log2 : Int))).toNat ↔ den * 2 ^ num.log2 ≤ num * 2 ^ den.log2 := fp_pw (by omega)
  by_cases h : den * 2 ^ num.log2 ≤ num * 2 ^ den.log2
  · refine ⟨num.log2, den.log2, ?_, h, ?_⟩
    · rw [hk, if_pos (ht.mpr h)]
    · have q1 : num * 2 ^ den.log2 ≤ num * den := Nat.mul_le_mul_left _ l3
      have q2 : num * den < 2 ^ (num.log2 + 1) * den := Nat.mul_lt_mul_of_pos_right l2 hd
      rw [Nat.mul_comm den]
      omega
  · refine ⟨num.log2, den.log2 + 1, ?_, ?_, ?_⟩
    · rw [hk, if_neg (fun q => h (ht.mp q))]
      omega
    · have q1 : den * 2 ^ num.log2 ≤ den * num := Nat.mul_le_mul_left _ l1
      have q2 : den * num ≤ 2 ^ (den.log2 + 1) * num := Nat.mul_le_mul_right _ (Nat.le_of_lt l4)
      rw [Nat.mul_comm num]
      omega
    · rw [Nat.pow_succ, Nat.pow_succ, ← Nat.mul_assoc, ← Nat.mul_assoc]
      omega
/-- what of a format is used -/
def Fok (f : FP.Core.Fmt) : Prop := 2 ≤ f.p ∧ 2 ^ f.p = 2 * f.tails ∧ 0 < f.tails ∧ f.exps = 2 * f.emax + 2 ∧ f.p ≤ f.emax ∧ 127 ≤ f.emax
theorem fok32 : Fok FP.Core.b32 := by unfold Fok; decide +kernel
theorem fok64 : Fok FP.Core.b64 := by unfold Fok; decide +kernel
/-- a number with all its digits -/
def Nrm (f : FP.Core.Fmt) (c : Nat) (q : Int) : Prop := f.tails ≤ c ∧ c < 2 ^ f.p ∧ f.qmin ≤ q ∧ q ≤ f.qmax
theorem fp_near {N D T : Nat} (hD : 0 < D) (h1 : D * T ≤ N) (h2 : N < D * (2 * T)) : T ≤ FP.Core.nearest N D ∧ FP.Core.nearest N D ≤ 2 * T := by
  have a1 : T ≤ N / D := (Nat.le_div_iff_mul_le hD).mpr (by rw [Nat.mul_comm]; exact h1)
  have a2 : N / D < 2 * T := (Nat.div_lt_iff_lt_mul hD).mpr (by rw [Nat.mul_comm]; exact h2)
  unfold FP.Core.nearest
  generalize N / D = z at a1 a2 ⊢
  split
  · omega
  · split <;> omega
theorem fp_near_eq {D c : Nat} (hD : 0 < D) : FP.Core.nearest (D * c) D = c := by
  unfold FP.Core.nearest
  rw [Nat.mul_mod_right, if_pos (by omega), Nat.mul_div_cancel_left _ hD]
theorem fp_round {f : FP.Core.Fmt} (hf : Fok f) {s : Bool} {num den a b : Nat} {e : Int} (hn : 0 < num) (hd : 0 < den) (hl : FP.Core.leading num den = (a : Int) - (b : Int)) (h1 : den * 2 ^ a ≤ num * 2 ^ b) (h2 : num * 2 ^ b < den * 2 ^ (a + 1))
    (q1 : f.qmin ≤ (a : Int) - (b : Int) + e - ((f.p : Int) - 1)) (q2 : (a : Int) - (b : Int) + e - ((f.p : Int) - 1) + 1 ≤ f.qmax) :
    ∃ (c : Nat) (q : Int), FP.Core.roundRatio f s num den e = .fin s c q ∧ Nrm f c q ∧ (q = (a : Int) - (b : Int) + e - ((f.p : Int) - 1) ∨ q = (a : Int) - (b : Int) + e - ((f.p : Int) - 1) + 1) ∧ (num * 2 ^ b = den * 2 ^ a → q = (a : Int) - (b : Int) + e - ((f.p : Int) - 1)) := by
  obtain ⟨f1, f2, f3, f4, f5, f6⟩ := hf
  obtain ⟨Q, hQ⟩ : ∃ Q : Int, Q = (a : Int) - (b : Int) + e - ((f.p : Int) - 1) := ⟨_, rfl⟩
  rw [← hQ] at q1 q2 ⊢
  have hq : FP.Core.quantum f num den e = Q := by
    show max f.qmin (FP.Core.leading num den + e - ((f.p : Int) - 1)) = Q
    rw [hl, ← hQ]
    exact Int.max_eq_right q1
  have hT : f.tails = 2 ^ (f.p - 1) := rfl
  have hD : 0 < den * 2 ^ (Q - e).toNat := Nat.mul_pos hd (Nat.two_pow_pos _)
  have lo : den * 2 ^ (Q - e).toNat * f.tails ≤ num * 2 ^ (e - Q).toNat := by
    rw [hT, Nat.mul_assoc, ← Nat.pow_add]
    exact (fp_pw (by omega)).mp h1
  have hi : num * 2 ^ (e - Q).toNat < den * 2 ^ (Q - e).toNat * (2 * f.tails) := by
    rw [← f2, Nat.mul_assoc, ← Nat.pow_add]
    exact (fp_pl (by omega)).mp h2
  obtain ⟨n1, n2⟩ := fp_near hD lo hi
  have hr : FP.Core.roundRatio f s num den e = FP.Core.settle f s (FP.Core.nearest (num * 2 ^ (e - Q).toNat) (den * 2 ^ (Q - e).toNat)) Q := by
    unfold FP.Core.roundRatio
    rw [if_neg (by omega), hq]
    rfl
  rw [hr]
  have heq : num * 2 ^ b = den * 2 ^ a → FP.Core.nearest (num * 2 ^ (e - Q).toNat) (den * 2 ^ (Q - e).toNat) = f.tails := by
    intro h
    have up : num * 2 ^ (e - Q).toNat ≤ den * 2 ^ (Q - e).toNat * f.tails := by
      rw [hT, Nat.mul_assoc, ← Nat.pow_add]
      exact (fp_pw (by omega)).mp (Nat.le_of_eq h)
    rw [Nat.le_antisymm up lo]
    exact fp_near_eq hD
  generalize FP.Core.nearest (num * 2 ^ (e - Q).toNat) (den * 2 ^ (Q - e).toNat) = z at n1 n2 heq ⊢
  unfold FP.Core.settle FP.Core.bound
  by_cases hc : z < 2 ^ f.p
  · rw [if_pos hc, if_pos (by omega)]
    exact ⟨z, Q, rfl, ⟨n1, hc, q1, by omega⟩, .inl rfl, fun _ => rfl⟩
  · rw [if_neg hc, if_pos q2]
    exact ⟨f.tails, Q + 1, rfl, ⟨Nat.le_refl _, by omega, by omega, q2⟩, .inr rfl, fun h => absurd (heq h) (by omega)⟩
theorem fp_exact {f : FP.Core.Fmt} (hf : Fok f) {s : Bool} {num c : Nat} {e q : Int} (h : Nrm f c q) (hE : num * 2 ^ (e - q).toNat = c * 2 ^ (q - e).toNat) : FP.Core.roundRatio f s num 1 e = .fin s c q := by
  obtain ⟨f1, f2, f3, f4, f5, f6⟩ := hf
  obtain ⟨h1, h2, h3, h4⟩ := h
  have hT : f.tails = 2 ^ (f.p - 1) := rfl
  have hn : 0 < num := by
    rcases Nat.eq_zero_or_pos num with z | z
    · rw [z, Nat.zero_mul] at hE
      have : 0 < c * 2 ^ (q - e).toNat := Nat.mul_pos (by omega) (Nat.two_pow_pos _)
      omega
    · exact z
  obtain ⟨a, b, hl, l1, l2⟩ := fp_lead hn (by decide : 0 < 1)
  rw [Nat.one_mul] at l1 l2
  obtain ⟨u, hu⟩ : ∃ u, u = (e - q).toNat := ⟨_, rfl⟩
  obtain ⟨v, hv⟩ : ∃ v, v = (q - e).toNat := ⟨_, rfl⟩
  have hE0 := hE
  rw [← hu, ← hv] at hE
  have k1 : a + u < f.p + v + b := by
    have t1 : 2 ^ (a + u) ≤ num * 2 ^ b * 2 ^ u := by rw [Nat.pow_add]; exact Nat.mul_le_mul_right _ l1
    have t2 : num * 2 ^ b * 2 ^ u = c * 2 ^ v * 2 ^ b := by rw [Nat.mul_right_comm, hE]
    have t3 : c * 2 ^ v * 2 ^ b < 2 ^ (f.p + v + b) := by
      rw [Nat.pow_add, Nat.pow_add]
      exact Nat.mul_lt_mul_of_pos_right (Nat.mul_lt_mul_of_pos_right h2 (Nat.two_pow_pos _)) (Nat.two_pow_pos _)
    exact (Nat.pow_lt_pow_iff_right (by decide : 1 < 2)).mp (by rw [t2] at t1; exact Nat.lt_of_le_of_lt t1 t3)
  have k2 : f.p - 1 + v + b < a + 1 + u := by
    have t1 : 2 ^ (f.p - 1 + v + b) ≤ c * 2 ^ v * 2 ^ b := by
      rw [Nat.pow_add, Nat.pow_add, ← hT]
      exact Nat.mul_le_mul_right _ (Nat.mul_le_mul_right _ h1)
    have t2 : num * 2 ^ b * 2 ^ u = c * 2 ^ v * 2 ^ b := by rw [Nat.mul_right_comm, hE]
    have t3 : num * 2 ^ b * 2 ^ u < 2 ^ (a + 1 + u) := by
      rw [Nat.pow_add]
      exact Nat.mul_lt_mul_of_pos_right l2 (Nat.two_pow_pos _)
    exact (Nat.pow_lt_pow_iff_right (by decide : 1 < 2)).mp (by rw [t2] at t3; exact Nat.lt_of_le_of_lt t1 t3)
  have hQ : (a : Int) - (b : Int) + e - ((f.p : Int) - 1) = q := by omega
  have hq : FP.Core.quantum f num 1 e = q := by
    show max f.qmin (FP.Core.leading num 1 + e - ((f.p : Int) - 1)) = q
    rw [hl, hQ]
    exact Int.max_eq_right h3
  unfold FP.Core.roundRatio
  rw [if_neg (by omega), hq]
  show FP.Core.settle f s (FP.Core.nearest (num * 2 ^ (e - q).toNat) (1 * 2 ^ (q - e).toNat)) q = _
  rw [hE0, Nat.one_mul, Nat.mul_comm c, fp_near_eq (Nat.two_pow_pos _)]
  unfold FP.Core.settle FP.Core.bound
  rw [if_pos h2, if_pos h4]
/-- how a number with all its digits is written -/
theorem fp_enc {f : FP.Core.Fmt} {c : Nat} {q : Int} (h : f.tails ≤ c) : FP.Core.encode f (.fin false c q) = ((q - f.qmin).toNat + 1) * f.tails + (c - f.tails) := by
  show (if c < f.tails then FP.Core.assemble f false 0 c else FP.Core.assemble f false ((q - f.qmin).toNat + 1) (c - f.tails)) = _
  rw [if_neg (by omega)]
  show (0 * f.exps + ((q - f.qmin).toNat + 1)) * f.tails + (c - f.tails) = _
  rw [Nat.zero_mul, Nat.zero_add]
theorem fp_dec {f : FP.Core.Fmt} (hf : Fok f) {c : Nat} {q : Int} (h : Nrm f c q) : FP.Core.decode f (FP.Core.encode f (.fin false c q)) = .fin false c q := by
  obtain ⟨f1, f2, f3, f4, f5, f6⟩ := hf
  obtain ⟨h1, h2, h3, h4⟩ := h
  obtain ⟨E, hE⟩ : ∃ E, E = (q - f.qmin).toNat + 1 := ⟨_, rfl⟩
  obtain ⟨t, ht⟩ : ∃ t, t = c - f.tails := ⟨_, rfl⟩
  have htT : t < f.tails := by omega
  have hqm : f.qmin = 2 - (f.emax : Int) - (f.p : Int) := rfl
  have hqx : f.qmax = (f.emax : Int) - (f.p : Int) + 1 := rfl
  have hEX : E < f.exps := by omega
  rw [fp_enc h1, ← hE, ← ht]
  have g1 : (E * f.tails + t) / f.tails = E := by rw [Nat.add_comm, Nat.add_mul_div_right _ _ f3, Nat.div_eq_of_lt htT, Nat.zero_add]
  have eT : FP.Core.fieldT f (E * f.tails + t) = t := by
    show (E * f.tails + t) % f.tails = t
    rw [Nat.add_comm, Nat.add_mul_mod_self_right, Nat.mod_eq_of_lt htT]
  have eE : FP.Core.fieldE f (E * f.tails + t) = E := by
    show (E * f.tails + t) / f.tails % f.exps = E
    rw [g1, Nat.mod_eq_of_lt hEX]
  have eS : FP.Core.fieldS f (E * f.tails + t) = false := by
    show ((E * f.tails + t) / f.tails / f.exps % 2 == 1) = false
    rw [g1, Nat.div_eq_of_lt hEX]
    rfl
  unfold FP.Core.decode
  rw [eE, eT, eS, if_neg (by omega), if_neg (by omega)]
  rw [show f.tails + t = c by omega, show f.qmin + ((E : Int) - 1) = q by omega]
theorem fp_mulp {f : FP.Core.Fmt} (hf : Fok f) {x y c : Nat} {q r : Int} (hx : FP.Core.decode f x = .fin false c q) (h1 : f.tails ≤ c) (h2 : c < 2 ^ f.p) (hy : FP.Core.decode f y = .fin false f.tails r) (h3 : f.qmin ≤ q + r + ((f.p : Int) - 1)) (h4 : q + r + ((f.p : Int) - 1) ≤ f.qmax) : FP.Core.mul f x y = FP.Core.encode f (.fin false c (q + r + ((f.p : Int) - 1))) := by
  have f1 := hf.1
  unfold FP.Core.mul
  rw [hx, hy]
  show FP.Core.encode f (FP.Core.roundRatio f false (c * f.tails) 1 (q + r)) = _
  rw [fp_exact hf (c := c) (q := q + r + ((f.p : Int) - 1)) ⟨h1, h2, h3, h4⟩ (by
    rw [show (q + r - (q + r + ((f.p : Int) - 1))).toNat = 0 by omega, show (q + r + ((f.p : Int) - 1) - (q + r)).toNat = f.p - 1 by omega, Nat.pow_zero, Nat.mul_one]
    rfl)]
theorem fp_sub1 {f : FP.Core.Fmt} (hf : Fok f) {x y c : Nat} {q : Int} (hx : FP.Core.decode f x = .fin false c q) (hc : f.tails ≤ c) (hy : FP.Core.decode f y = .fin false f.tails q) : FP.Core.sub f x y = FP.Core.encode f (FP.Core.roundRatio f false (c - f.tails) 1 q) := by
  have hv : FP.Core.sumUnits false c q true f.tails q (min q q) = ((c - f.tails : Nat) : Int) := by
    show (((c * 2 ^ (q - min q q).toNat : Nat) : Int) + (-((f.tails * 2 ^ (q - min q q).toNat : Nat) : Int))) = _
    rw [Int.min_self, Int.sub_self, Int.toNat_zero, Nat.pow_zero, Nat.mul_one, Nat.mul_one]
    omega
  have hs : FP.Core.sumSign false true ((c - f.tails : Nat) : Int) = false := by
    unfold FP.Core.sumSign
    split
    · rfl
    · exact decide_eq_false (by omega)
  unfold FP.Core.sub
  rw [hx, hy]
  show FP.Core.encode f (FP.Core.round f (.fin (FP.Core.sumSign false true (FP.Core.sumUnits false c q true f.tails q (min q q))) (FP.Core.sumUnits false c q true f.tails q (min q q)).natAbs (min q q))) = _
  rw [hv, hs, Int.natAbs_natCast, Int.min_self]
  rfl
/-- the digits behind the first, as a number of their own -/
theorem fp_frac {f : FP.Core.Fmt} (hf : Fok f) {m : Nat} (h0 : 0 < m) (h1 : m < f.tails) : Nrm f (m * 2 ^ (f.p - 1 - m.log2)) ((m.log2 : Int) + 2 - 2 * (f.p : Int)) ∧ m.log2 + 2 ≤ f.p ∧ FP.Core.roundRatio f false m 1 (1 - (f.p : Int)) = .fin false (m * 2 ^ (f.p - 1 - m.log2)) ((m.log2 : Int) + 2 - 2 * (f.p : Int)) := by
  have hf' := hf
  obtain ⟨f1, f2, f3, f4, f5, f6⟩ := hf
  have hT : f.tails = 2 ^ (f.p - 1) := rfl
  have hm : m ≠ 0 := by omega
  have l1 : 2 ^ m.log2 ≤ m := (Nat.le_log2 hm).mp (Nat.le_refl _)
  have l2 : m < 2 ^ (m.log2 + 1) := (Nat.log2_lt hm).mp (Nat.lt_succ_self _)
  have hL : m.log2 < f.p - 1 := (Nat.log2_lt hm).mpr (by rw [← hT]; exact h1)
  have hqm : f.qmin = 2 - (f.emax : Int) - (f.p : Int) := rfl
  have hqx : f.qmax = (f.emax : Int) - (f.p : Int) + 1 := rfl
  have hN : Nrm f (m * 2 ^ (f.p - 1 - m.log2)) ((m.log2 : Int) + 2 - 2 * (f.p : Int)) := by
    refine ⟨?_, ?_, by omega, by omega⟩
    · have := Nat.mul_le_mul_right (2 ^ (f.p - 1 - m.log2)) l1
      rw [← Nat.pow_add, show m.log2 + (f.p - 1 - m.log2) = f.p - 1 by omega] at this
      rw [hT]
      exact this
    · have := Nat.mul_lt_mul_of_pos_right l2 (Nat.two_pow_pos (f.p - 1 - m.log2))
      rw [← Nat.pow_add, show m.log2 + 1 + (f.p - 1 - m.log2) = f.p by omega] at this
      exact this
  refine ⟨hN, by omega, fp_exact hf' hN ?_⟩
  rw [show (1 - (f.p : Int) - ((m.log2 : Int) + 2 - 2 * (f.p : Int))).toNat = f.p - 1 - m.log2 by omega, show ((m.log2 : Int) + 2 - 2 * (f.p : Int) - (1 - (f.p : Int))).toNat = 0 by omega, Nat.pow_zero, Nat.mul_one]
/-- a share: S of B -/
theorem fp_ratio {f : FP.Core.Fmt} (hf : Fok f) {S B x y : Nat} {e : Int} (h1 : 1 ≤ S) (h2 : S ≤ B) (hB : B < 2 ^ 31) (he : e = (y : Int) - (x : Int)) : ∃ (c : Nat) (q : Int), FP.Core.roundRatio f false (S * 2 ^ x) (B * 2 ^ y) e = .fin false c q ∧ Nrm f c q ∧ q ≤ 1 - (f.p : Int) := by
  have hf' := hf
  obtain ⟨f1, f2, f3, f4, f5, f6⟩ := hf
  have hqm : f.qmin = 2 - (f.emax : Int) - (f.p : Int) := rfl
  have hqx : f.qmax = (f.emax : Int) - (f.p : Int) + 1 := rfl
  have hn : 0 < S * 2 ^ x := Nat.mul_pos (by omega) (Nat.two_pow_pos _)
  have hd : 0 < B * 2 ^ y := Nat.mul_pos (by omega) (Nat.two_pow_pos _)
  obtain ⟨a, b, hl, l1, l2⟩ := fp_lead hn hd
  have k1 : B * 2 ^ (y + a) ≤ S * 2 ^ (x + b) := by rw [Nat.pow_add, Nat.pow_add, ← Nat.mul_assoc, ← Nat.mul_assoc]; exact l1
  have k2 : S * 2 ^ (x + b) < B * 2 ^ (y + (a + 1)) := by rw [Nat.pow_add, Nat.pow_add, ← Nat.mul_assoc, ← Nat.mul_assoc]; exact l2
  have k3 : S * 2 ^ (x + b) ≤ B * 2 ^ (x + b) := Nat.mul_le_mul_right _ h2
  have u1 : y + a ≤ x + b := by
    have : 2 ^ (y + a) ≤ 2 ^ (x + b) := by
      have := Nat.le_trans k1 k3
      rw [Nat.mul_comm B, Nat.mul_comm B] at this
      exact Nat.le_of_mul_le_mul_right this (by omega)
    rcases Nat.lt_or_ge (x + b) (y + a) with z | z
    · have := (Nat.pow_lt_pow_iff_right (by decide : 1 < 2)).mpr z
      omega
    · exact z
  have u2 : x + b < 31 + (y + (a + 1)) := by
    have t1 : 2 ^ (x + b) ≤ S * 2 ^ (x + b) := Nat.le_mul_of_pos_left _ (by omega)
    have t2 : B * 2 ^ (y + (a + 1)) < 2 ^ 31 * 2 ^ (y + (a + 1)) := Nat.mul_lt_mul_of_pos_right hB (Nat.two_pow_pos _)
    rw [← Nat.pow_add] at t2
    exact (Nat.pow_lt_pow_iff_right (by decide : 1 < 2)).mp (Nat.lt_of_le_of_lt t1 (Nat.lt_trans k2 t2))
  obtain ⟨c, q, r1, r2, r3, r4⟩ := fp_round hf' (s := false) (e := e) hn hd hl l1 l2 (by omega) (by omega)
  refine ⟨c, q, r1, r2, ?_⟩
  by_cases hz : y + a = x + b
  · have heq : S * 2 ^ x * 2 ^ b = B * 2 ^ y * 2 ^ a := by
      rw [Nat.mul_assoc, Nat.mul_assoc, ← Nat.pow_add, ← Nat.pow_add]
      rw [hz] at k1 ⊢
      exact Nat.le_antisymm k3 k1
    have := r4 heq
    omega
  · omega
