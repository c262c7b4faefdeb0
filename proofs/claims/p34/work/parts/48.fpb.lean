/-! the two formats of the machine -/
def F32 (c : Nat) (q : Int) : UInt32 := UInt32.ofNat (FP.Core.encode FP.Core.b32 (.fin false c q))
def F64 (c : Nat) (q : Int) : UInt64 := UInt64.ofNat (FP.Core.encode FP.Core.b64 (.fin false c q))
theorem q32 : FP.Core.b32.tails = 8388608 ∧ FP.Core.b32.qmin = -149 ∧ FP.Core.b32.qmax = 104 ∧ FP.Core.b32.p = 24 ∧ 2 ^ FP.Core.b32.p = 16777216 := by decide +kernel
theorem q64 : FP.Core.b64.tails = 4503599627370496 ∧ FP.Core.b64.qmin = -1074 ∧ FP.Core.b64.qmax = 971 ∧ FP.Core.b64.p = 53 ∧ 2 ^ FP.Core.b64.p = 9007199254740992 := by decide +kernel
def N32 (c : Nat) (q : Int) : Prop := 8388608 ≤ c ∧ c < 16777216 ∧ -149 ≤ q ∧ q ≤ 104
def N64 (c : Nat) (q : Int) : Prop := 4503599627370496 ≤ c ∧ c < 9007199254740992 ∧ -1074 ≤ q ∧ q ≤ 971
theorem nrm32 {c : Nat} {q : Int} : Nrm FP.Core.b32 c q ↔ N32 c q := by
  obtain ⟨a1, a2, a3, a4, a5⟩ := q32
  unfold Nrm N32
  rw [a1, a2, a3, a5]
theorem nrm64 {c : Nat} {q : Int} : Nrm FP.Core.b64 c q ↔ N64 c q := by
  obtain ⟨a1, a2, a3, a4, a5⟩ := q64
  unfold Nrm N64
  rw [a1, a2, a3, a5]
theorem e32 {c : Nat} {q : Int} (h : N32 c q) : FP.Core.encode FP.Core.b32 (.fin false c q) = ((q + 149).toNat + 1) * 8388608 + (c - 8388608) := by
  obtain ⟨a1, a2, a3, a4, a5⟩ := q32
  rw [fp_enc (by rw [a1]; exact h.1), a1, a2, show q - -149 = q + 149 by omega]
theorem e64 {c : Nat} {q : Int} (h : N64 c q) : FP.Core.encode FP.Core.b64 (.fin false c q) = ((q + 1074).toNat + 1) * 4503599627370496 + (c - 4503599627370496) := by
  obtain ⟨a1, a2, a3, a4, a5⟩ := q64
  rw [fp_enc (by rw [a1]; exact h.1), a1, a2, show q - -1074 = q + 1074 by omega]
theorem t32 {c : Nat} {q : Int} (h : N32 c q) : (F32 c q).toNat = ((q + 149).toNat + 1) * 8388608 + (c - 8388608) ∧ ((q + 149).toNat + 1) * 8388608 + (c - 8388608) < 2139095040 := by
  have h' := h
  obtain ⟨h1, h2, h3, h4⟩ := h
  refine ⟨?_, by omega⟩
  unfold F32
  rw [e32 h']
  exact UInt32.toNat_ofNat_of_lt' (by show _ < 4294967296; omega)
theorem t64 {c : Nat} {q : Int} (h : N64 c q) : (F64 c q).toNat = ((q + 1074).toNat + 1) * 4503599627370496 + (c - 4503599627370496) ∧ ((q + 1074).toNat + 1) * 4503599627370496 + (c - 4503599627370496) < 9218868437227405312 := by
  have h' := h
  obtain ⟨h1, h2, h3, h4⟩ := h
  refine ⟨?_, by omega⟩
  unfold F64
  rw [e64 h']
  exact UInt64.toNat_ofNat_of_lt' (by show _ < 18446744073709551616; omega)
theorem d32 {c : Nat} {q : Int} (h : N32 c q) : FP.Core.decode FP.Core.b32 (F32 c q).toNat = .fin false c q := by
  rw [(t32 h).1, ← e32 h]
  exact fp_dec fok32 (nrm32.mpr h)
theorem d64 {c : Nat} {q : Int} (h : N64 c q) : FP.Core.decode FP.Core.b64 (F64 c q).toNat = .fin false c q := by
  rw [(t64 h).1, ← e64 h]
  exact fp_dec fok64 (nrm64.mpr h)
theorem n32_of {r : UInt32} (h : r.toNat ≤ 2139095040) : vf_n32 r := by
  unfold vf_n32
  rw [UInt32.le_iff_toNat_le, UInt32.toNat_and]
  exact Nat.le_trans Nat.and_le_left h
theorem n64_of {r : UInt64} (h : r.toNat ≤ 9218868437227405312) : vf_n64 r := by
  unfold vf_n64
  rw [UInt64.le_iff_toNat_le, UInt64.toNat_and]
  exact Nat.le_trans Nat.and_le_left h
theorem n32 {c : Nat} {q : Int} (h : N32 c q) : vf_n32 (F32 c q) := n32_of (by rw [(t32 h).1]; exact Nat.le_of_lt (t32 h).2)
theorem n64 {c : Nat} {q : Int} (h : N64 c q) : vf_n64 (F64 c q) := n64_of (by rw [(t64 h).1]; exact Nat.le_of_lt (t64 h).2)
/-- a share's bits: zero, or all its digits, at most 1 -/
def Sh32 (x : UInt32) : Prop := x = 0 ∨ ∃ c q, N32 c q ∧ q ≤ -23 ∧ x = F32 c q
def Sh64 (x : UInt64) : Prop := x = 0 ∨ ∃ c q, N64 c q ∧ q ≤ -52 ∧ x = F64 c q
theorem sh32_n {x : UInt32} (h : Sh32 x) : vf_n32 x := by
  rcases h with rfl | ⟨c, q, h1, h2, rfl⟩
  · exact n32_of (by decide)
  · exact n32 h1
theorem sh64_n {x : UInt64} (h : Sh64 x) : vf_n64 x := by
  rcases h with rfl | ⟨c, q, h1, h2, rfl⟩
  · exact n64_of (by decide)
  · exact n64 h1
theorem sh64_1 : Sh64 FP.dconst1 := by
  refine .inr ⟨4503599627370496, -52, ⟨by decide, by decide, by decide, by decide⟩, by decide, ?_⟩
  decide +kernel
/-- a whole number, exactly -/
theorem i2f_F {S : Nat} (h1 : 1 ≤ S) (h2 : S < 16777216) : FP.i2f (nI S) = F32 (S * 2 ^ (23 - S.log2)) ((S.log2 : Int) - 23) ∧ N32 (S * 2 ^ (23 - S.log2)) ((S.log2 : Int) - 23) := by
  have hS : S ≠ 0 := by omega
  have l1 : 2 ^ S.log2 ≤ S := (Nat.le_log2 hS).mp (Nat.le_refl _)
  have l2 : S < 2 ^ (S.log2 + 1) := (Nat.log2_lt hS).mp (Nat.lt_succ_self _)
  have hL : S.log2 < 24 := (Nat.log2_lt hS).mpr h2
  have hN : N32 (S * 2 ^ (23 - S.log2)) ((S.log2 : Int) - 23) := by
    refine ⟨?_, ?_, by omega, by omega⟩
    · have := Nat.mul_le_mul_right (2 ^ (23 - S.log2)) l1
      rw [← Nat.pow_add, show S.log2 + (23 - S.log2) = 23 by omega] at this
      exact this
    · have := Nat.mul_lt_mul_of_pos_right l2 (Nat.two_pow_pos (23 - S.log2))
      rw [← Nat.pow_add, show S.log2 + 1 + (23 - S.log2) = 24 by omega] at this
      exact this
  refine ⟨?_, hN⟩
  show UInt32.ofNat (FP.Core.fromInt FP.Core.b32 (nI S).toInt) = _
  unfold FP.Core.fromInt FP.Core.ofInt F32
  rw [nI_toInt (by omega), decide_eq_false (by omega), Int.natAbs_natCast]
  show UInt32.ofNat (FP.Core.encode FP.Core.b32 (FP.Core.roundRatio FP.Core.b32 false S 1 0)) = _
  rw [fp_exact fok32 (nrm32.mpr hN) (by
    rw [show (0 - ((S.log2 : Int) - 23)).toNat = 23 - S.log2 by omega, show ((S.log2 : Int) - 23 - 0).toNat = 0 by omega, Nat.pow_zero, Nat.mul_one])]
theorem i2d_F {S : Nat} (h1 : 1 ≤ S) (h2 : S < 2147483648) : FP.i2d (nI S) = F64 (S * 2 ^ (52 - S.log2)) ((S.log2 : Int) - 52) ∧ N64 (S * 2 ^ (52 - S.log2)) ((S.log2 : Int) - 52) := by
  have hS : S ≠ 0 := by omega
  have l1 : 2 ^ S.log2 ≤ S := (Nat.le_log2 hS).mp (Nat.le_refl _)
  have l2 : S < 2 ^ (S.log2 + 1) := (Nat.log2_lt hS).mp (Nat.lt_succ_self _)
  have hL : S.log2 < 31 := (Nat.log2_lt hS).mpr h2
  have hN : N64 (S * 2 ^ (52 - S.log2)) ((S.log2 : Int) - 52) := by
    refine ⟨?_, ?_, by omega, by omega⟩
    · have := Nat.mul_le_mul_right (2 ^ (52 - S.log2)) l1
      rw [← Nat.pow_add, show S.log2 + (52 - S.log2) = 52 by omega] at this
      exact this
    · have := Nat.mul_lt_mul_of_pos_right l2 (Nat.two_pow_pos (52 - S.log2))
      rw [← Nat.pow_add, show S.log2 + 1 + (52 - S.log2) = 53 by omega] at this
      exact this
  refine ⟨?_, hN⟩
  show UInt64.ofNat (FP.Core.fromInt FP.Core.b64 (nI S).toInt) = _
  unfold FP.Core.fromInt FP.Core.ofInt F64
  rw [nI_toInt (by omega), decide_eq_false (by omega), Int.natAbs_natCast]
  show UInt64.ofNat (FP.Core.encode FP.Core.b64 (FP.Core.roundRatio FP.Core.b64 false S 1 0)) = _
  rw [fp_exact fok64 (nrm64.mpr hN) (by
    rw [show (0 - ((S.log2 : Int) - 52)).toNat = 52 - S.log2 by omega, show ((S.log2 : Int) - 52 - 0).toNat = 0 by omega, Nat.pow_zero, Nat.mul_one])]
theorem fp_quo {f : FP.Core.Fmt} {x y c d : Nat} {q r : Int} (hx : FP.Core.decode f x = .fin false c q) (hy : FP.Core.decode f y = .fin false d r) (hd : d ≠ 0) : FP.Core.div f x y = FP.Core.encode f (FP.Core.roundRatio f false c d (q - r)) := by
  unfold FP.Core.div
  rw [hx, hy]
  show FP.Core.encode f (if d = 0 then (if c = 0 then .nan else .inf (false != false)) else FP.Core.roundRatio f (false != false) c d (q - r)) = _
  rw [if_neg hd]
  rfl
/-- the worn share -/
theorem worn_sh {S : Nat} (h : S ≤ 20000) : Sh32 (FP.fdiv (FP.i2f (nI S)) 1184645120) := by
  have hk : FP.Core.decode FP.Core.b32 (1184645120 : UInt32).toNat = .fin false 10240000 (-9) := by decide +kernel
  rcases Nat.eq_zero_or_pos S with rfl | h0
  · exact .inl (by decide +kernel)
  · obtain ⟨e1, e2⟩ := i2f_F h0 (by omega)
    have hS : S ≠ 0 := by omega
    have hL : S.log2 < 24 := (Nat.log2_lt hS).mpr (by omega)
    obtain ⟨c, q, r1, r2, r3⟩ := fp_ratio fok32 (S := S) (B := 20000) (x := 23 - S.log2) (y := 9) (e := (S.log2 : Int) - 23 - -9) h0 h (by decide) (by omega)
    rw [q32.2.2.2.1] at r3
    refine .inr ⟨c, q, nrm32.mp r2, by omega, ?_⟩
    rw [e1]
    show UInt32.ofNat (FP.Core.div FP.Core.b32 _ _) = UInt32.ofNat _
    rw [fp_quo (d32 e2) hk (by decide), ← r1]
/-- the carried share -/
theorem carr_sh {C B : Nat} (h : C ≤ B) (hB0 : 1 ≤ B) (hB : B < 2147483648) : Sh64 (FP.ddiv (FP.i2d (nI C)) (FP.i2d (nI B))) := by
  obtain ⟨b1, b2⟩ := i2d_F hB0 hB
  have hb0 : B ≠ 0 := by omega
  have hLB : B.log2 < 31 := (Nat.log2_lt hb0).mpr hB
  rcases Nat.eq_zero_or_pos C with rfl | h0
  · refine .inl ?_
    rw [b1]
    show UInt64.ofNat (FP.Core.div FP.Core.b64 _ _) = 0
    rw [fp_quo (f := FP.Core.b64) (c := 0) (q := -1074) (by decide +kernel) (d64 b2) (by have := b2.1; omega)]
    show UInt64.ofNat (FP.Core.encode FP.Core.b64 (FP.Core.roundRatio FP.Core.b64 false 0 _ _)) = 0
    unfold FP.Core.roundRatio
    rw [if_pos rfl]
    decide +kernel
  · obtain ⟨e1, e2⟩ := i2d_F h0 (by omega)
    have hc0 : C ≠ 0 := by omega
    have hLC : C.log2 < 31 := (Nat.log2_lt hc0).mpr (by omega)
    obtain ⟨c, q, r1, r2, r3⟩ := fp_ratio fok64 (S := C) (B := B) (x := 52 - C.log2) (y := 52 - B.log2) (e := (C.log2 : Int) - 52 - ((B.log2 : Int) - 52)) h0 h (by omega) (by omega)
    rw [q64.2.2.2.1] at r3
    refine .inr ⟨c, q, nrm64.mp r2, by omega, ?_⟩
    rw [e1, b1]
    show UInt64.ofNat (FP.Core.div FP.Core.b64 _ _) = UInt64.ofNat _
    rw [fp_quo (d64 e2) (d64 b2) (by have := b2.1; omega), ← r1]
/-! doublings -/
theorem two32 : FP.Core.decode FP.Core.b32 FP.fconst2.toNat = .fin false FP.Core.b32.tails (-22) := by decide +kernel
theorem one32 : FP.Core.decode FP.Core.b32 FP.fconst1.toNat = .fin false FP.Core.b32.tails (-23) := by decide +kernel
theorem big32 : FP.Core.decode FP.Core.b32 (1258291200 : UInt32).toNat = .fin false FP.Core.b32.tails 0 := by decide +kernel
theorem two64 : FP.Core.decode FP.Core.b64 (4611686018427387904 : UInt64).toNat = .fin false FP.Core.b64.tails (-51) := by decide +kernel
theorem one64 : FP.Core.decode FP.Core.b64 FP.dconst1.toNat = .fin false FP.Core.b64.tails (-52) := by decide +kernel
theorem big64 : FP.Core.decode FP.Core.b64 (4841369599423283200 : UInt64).toNat = .fin false FP.Core.b64.tails 0 := by decide +kernel
theorem dbl32 {c : Nat} {q : Int} (h : N32 c q) (hq : q ≤ -24) : FP.fmul (F32 c q) FP.fconst2 = F32 c (q + 1) ∧ N32 c (q + 1) := by
  obtain ⟨h1, h2, h3, h4⟩ := h
  have hn : N32 c (q + 1) := ⟨h1, h2, by omega, by omega⟩
  refine ⟨?_, hn⟩
  show UInt32.ofNat (FP.Core.mul FP.Core.b32 _ _) = UInt32.ofNat _
  obtain ⟨a1, a2, a3, a4, a5⟩ := q32
  rw [fp_mulp fok32 (d32 ⟨h1, h2, h3, h4⟩) (by rw [a1]; exact h1) (by rw [a5]; exact h2) two32 (by rw [a2, a4]; omega) (by rw [a3, a4]; omega), a4]
  rw [show q + -22 + (((24 : Nat) : Int) - 1) = q + 1 by omega]
theorem dbl64 {c : Nat} {q : Int} (h : N64 c q) (hq : q ≤ -53) : FP.dmul (F64 c q) 4611686018427387904 = F64 c (q + 1) ∧ N64 c (q + 1) := by
  obtain ⟨h1, h2, h3, h4⟩ := h
  have hn : N64 c (q + 1) := ⟨h1, h2, by omega, by omega⟩
  refine ⟨?_, hn⟩
  show UInt64.ofNat (FP.Core.mul FP.Core.b64 _ _) = UInt64.ofNat _
  obtain ⟨a1, a2, a3, a4, a5⟩ := q64
  rw [fp_mulp fok64 (d64 ⟨h1, h2, h3, h4⟩) (by rw [a1]; exact h1) (by rw [a5]; exact h2) two64 (by rw [a2, a4]; omega) (by rw [a3, a4]; omega), a4]
  rw [show q + -51 + (((53 : Nat) : Int) - 1) = q + 1 by omega]
/-! the digits behind the first -/
theorem frac32 {c : Nat} (h : N32 c (-23)) : vf_n32 (FP.fsub (F32 c (-23)) FP.fconst1) ∧ vf_n32 (FP.fmul (FP.fsub (F32 c (-23)) FP.fconst1) 1258291200) ∧ FP.f2i (FP.fmul (FP.fsub (F32 c (-23)) FP.fconst1) 1258291200) = nI (c - 8388608) := by
  obtain ⟨a1, a2, a3, a4, a5⟩ := q32
  have h' := h
  obtain ⟨h1, h2, h3, h4⟩ := h
  have es : FP.fsub (F32 c (-23)) FP.fconst1 = UInt32.ofNat (FP.Core.encode FP.Core.b32 (FP.Core.roundRatio FP.Core.b32 false (c - FP.Core.b32.tails) 1 (-23))) := by
    show UInt32.ofNat (FP.Core.sub FP.Core.b32 _ _) = _
    rw [fp_sub1 fok32 (d32 h') (by rw [a1]; exact h1) one32]
  rw [es, a1]
  rcases Nat.eq_zero_or_pos (c - 8388608) with z | z
  · rw [z]
    refine ⟨n32_of (by decide +kernel), n32_of (by decide +kernel), by decide +kernel⟩
  · obtain ⟨g1, g2, g3⟩ := fp_frac fok32 (m := c - 8388608) z (by rw [a1]; omega)
    rw [a4] at g1 g2 g3
    obtain ⟨m, hm⟩ : ∃ m, m = c - 8388608 := ⟨_, rfl⟩
    rw [← hm] at g1 g2 g3 z ⊢
    have hN := nrm32.mp g1
    have e1 : FP.Core.roundRatio FP.Core.b32 false m 1 (-23) = .fin false (m * 2 ^ (24 - 1 - m.log2)) ((m.log2 : Int) + 2 - 2 * ((24 : Nat) : Int)) := g3
    rw [e1]
    show vf_n32 (F32 _ _) ∧ vf_n32 (FP.fmul (F32 _ _) 1258291200) ∧ FP.f2i (FP.fmul (F32 _ _) 1258291200) = nI m
    have hN2 : N32 (m * 2 ^ (24 - 1 - m.log2)) ((m.log2 : Int) + 2 - 2 * ((24 : Nat) : Int) + 0 + (((24 : Nat) : Int) - 1)) := ⟨hN.1, hN.2.1, by omega, by omega⟩
    have e2 : FP.fmul (F32 (m * 2 ^ (24 - 1 - m.log2)) ((m.log2 : Int) + 2 - 2 * ((24 : Nat) : Int))) 1258291200 = F32 (m * 2 ^ (24 - 1 - m.log2)) ((m.log2 : Int) + 2 - 2 * ((24 : Nat) : Int) + 0 + (((24 : Nat) : Int) - 1)) := by
      show UInt32.ofNat (FP.Core.mul FP.Core.b32 _ _) = UInt32.ofNat _
      rw [fp_mulp fok32 (d32 hN) (by rw [a1]; exact hN.1) (by rw [a5]; exact hN.2.1) big32 (by rw [a2, a4]; omega) (by rw [a3, a4]; omega), a4]
    rw [e2]
    refine ⟨n32 hN, n32 hN2, ?_⟩
    show FP.Core.toI (FP.Core.decode FP.Core.b32 (F32 _ _).toNat) = nI m
    rw [d32 hN2]
    show Int32.ofInt (max (-2 ^ 31) (min (2 ^ 31 - 1) (((m * 2 ^ (24 - 1 - m.log2) * 2 ^ ((m.log2 : Int) + 2 - 2 * ((24 : Nat) : Int) + 0 + (((24 : Nat) : Int) - 1)).toNat / 2 ^ (-((m.log2 : Int) + 2 - 2 * ((24 : Nat) : Int) + 0 + (((24 : Nat) : Int) - 1))).toNat : Nat) : Int)))) = nI m
    rw [show ((m.log2 : Int) + 2 - 2 * ((24 : Nat) : Int) + 0 + (((24 : Nat) : Int) - 1)).toNat = 0 by omega, show (-((m.log2 : Int) + 2 - 2 * ((24 : Nat) : Int) + 0 + (((24 : Nat) : Int) - 1))).toNat = 24 - 1 - m.log2 by omega, Nat.pow_zero, Nat.mul_one, Nat.mul_div_cancel _ (Nat.two_pow_pos _)]
    rw [Int.min_eq_right (by omega), Int.max_eq_right (by omega), Int32.ofInt_eq_ofNat]
    rfl
theorem frac64 {c : Nat} (h : N64 c (-52)) : vf_n64 (FP.dsub (F64 c (-52)) FP.dconst1) ∧ vf_n64 (FP.dmul (FP.dsub (F64 c (-52)) FP.dconst1) 4841369599423283200) ∧ FP.d2l (FP.dmul (FP.dsub (F64 c (-52)) FP.dconst1) 4841369599423283200) = Int64.ofNat (c - 4503599627370496) := by
  obtain ⟨a1, a2, a3, a4, a5⟩ := q64
  have h' := h
  obtain ⟨h1, h2, h3, h4⟩ := h
  have es : FP.dsub (F64 c (-52)) FP.dconst1 = UInt64.ofNat (FP.Core.encode FP.Core.b64 (FP.Core.roundRatio FP.Core.b64 false (c - FP.Core.b64.tails) 1 (-52))) := by
    show UInt64.ofNat (FP.Core.sub FP.Core.b64 _ _) = _
    rw [fp_sub1 fok64 (d64 h') (by rw [a1]; exact h1) one64]
  rw [es, a1]
  rcases Nat.eq_zero_or_pos (c - 4503599627370496) with z | z
  · rw [z]
    refine ⟨n64_of (by decide +kernel), n64_of (by decide +kernel), by decide +kernel⟩
  · obtain ⟨g1, g2, g3⟩ := fp_frac fok64 (m := c - 4503599627370496) z (by rw [a1]; omega)
    rw [a4] at g1 g2 g3
    obtain ⟨m, hm⟩ : ∃ m, m = c - 4503599627370496 := ⟨_, rfl⟩
    rw [← hm] at g1 g2 g3 z ⊢
    have hN := nrm64.mp g1
    have e1 : FP.Core.roundRatio FP.Core.b64 false m 1 (-52) = .fin false (m * 2 ^ (53 - 1 - m.log2)) ((m.log2 : Int) + 2 - 2 * ((53 : Nat) : Int)) := g3
    rw [e1]
    show vf_n64 (F64 _ _) ∧ vf_n64 (FP.dmul (F64 _ _) 4841369599423283200) ∧ FP.d2l (FP.dmul (F64 _ _) 4841369599423283200) = Int64.ofNat m
    have hN2 : N64 (m * 2 ^ (53 - 1 - m.log2)) ((m.log2 : Int) + 2 - 2 * ((53 : Nat) : Int) + 0 + (((53 : Nat) : Int) - 1)) := ⟨hN.1, hN.2.1, by omega, by omega⟩
    have e2 : FP.dmul (F64 (m * 2 ^ (53 - 1 - m.log2)) ((m.log2 : Int) + 2 - 2 * ((53 : Nat) : Int))) 4841369599423283200 = F64 (m * 2 ^ (53 - 1 - m.log2)) ((m.log2 : Int) + 2 - 2 * ((53 : Nat) : Int) + 0 + (((53 : Nat) : Int) - 1)) := by
      show UInt64.ofNat (FP.Core.mul FP.Core.b64 _ _) = UInt64.ofNat _
      rw [fp_mulp fok64 (d64 hN) (by rw [a1]; exact hN.1) (by rw [a5]; exact hN.2.1) big64 (by rw [a2, a4]; omega) (by rw [a3, a4]; omega), a4]
    rw [e2]
    refine ⟨n64 hN, n64 hN2, ?_⟩
    show FP.Core.toL (FP.Core.decode FP.Core.b64 (F64 _ _).toNat) = Int64.ofNat m
    rw [d64 hN2]
    show Int64.ofInt (max (-2 ^ 63) (min (2 ^ 63 - 1) (((m * 2 ^ (53 - 1 - m.log2) * 2 ^ ((m.log2 : Int) + 2 - 2 * ((53 : Nat) : Int) + 0 + (((53 : Nat) : Int) - 1)).toNat / 2 ^ (-((m.log2 : Int) + 2 - 2 * ((53 : Nat) : Int) + 0 + (((53 : Nat) : Int) - 1))).toNat : Nat) : Int)))) = Int64.ofNat m
    rw [show ((m.log2 : Int) + 2 - 2 * ((53 : Nat) : Int) + 0 + (((53 : Nat) : Int) - 1)).toNat = 0 by omega, show (-((m.log2 : Int) + 2 - 2 * ((53 : Nat) : Int) + 0 + (((53 : Nat) : Int) - 1))).toNat = 53 - 1 - m.log2 by omega, Nat.pow_zero, Nat.mul_one, Nat.mul_div_cancel _ (Nat.two_pow_pos _)]
    rw [Int.min_eq_right (by omega), Int.max_eq_right (by omega), Int64.ofInt_eq_ofNat]
/-! comparisons -/
theorem ord_lt {f : FP.Core.Fmt} (hf : Fok f) {c : Nat} {q : Int} (h2 : c < 2 ^ f.p) (hq : q < 1 - (f.p : Int)) : FP.Core.order (.fin false c q) (.fin false f.tails (1 - (f.p : Int))) = some .lt := by
  have f2 := hf.2.1
  show some (compare ((c * 2 ^ (q - min q (1 - (f.p : Int))).toNat : Nat) : Int) ((f.tails * 2 ^ (1 - (f.p : Int) - min q (1 - (f.p : Int))).toNat : Nat) : Int)) = _
  rw [Int.min_eq_left (by omega), Int.sub_self, Int.toNat_zero, Nat.pow_zero, Nat.mul_one]
  have h3 : f.tails * 2 ≤ f.tails * 2 ^ (1 - (f.p : Int) - q).toNat := by
    refine Nat.mul_le_mul_left _ ?_
    have := Nat.pow_le_pow_right (n := 2) (by decide) (show 1 ≤ (1 - (f.p : Int) - q).toNat by omega)
    exact this
  rw [Int.compare_eq_lt.mpr (by omega)]
theorem ord_ge {f : FP.Core.Fmt} {c : Nat} {q : Int} (h : f.tails ≤ c) : FP.Core.order (.fin false c q) (.fin false f.tails q) = some .eq ∨ FP.Core.order (.fin false c q) (.fin false f.tails q) = some .gt := by
  have e : FP.Core.order (.fin false c q) (.fin false f.tails q) = some (compare ((c * 2 ^ (q - min q q).toNat : Nat) : Int) ((f.tails * 2 ^ (q - min q q).toNat : Nat) : Int)) := rfl
  rw [e, Int.min_self, Int.sub_self, Int.toNat_zero, Nat.pow_zero, Nat.mul_one, Nat.mul_one]
  by_cases k : c = f.tails
  · exact .inl (by rw [k, Int.compare_eq_eq.mpr rfl])
  · exact .inr (by rw [Int.compare_eq_gt.mpr (by omega)])
theorem ord_pos {c : Nat} {q r : Int} (h : 0 < c) : FP.Core.order (.fin false c q) (.fin false 0 r) = some .gt := by
  show some (compare ((c * 2 ^ (q - min q r).toNat : Nat) : Int) ((0 * 2 ^ (r - min q r).toNat : Nat) : Int)) = _
  have : 0 < c * 2 ^ (q - min q r).toNat := Nat.mul_pos h (Nat.two_pow_pos _)
  rw [Nat.zero_mul, Int.compare_eq_gt.mpr (by omega)]
theorem ord_self (d : FP.Core.Datum) : FP.Core.order d d = none ∨ FP.Core.order d d = some .eq := by
  cases d with
  | nan => exact .inl rfl
  | inf s => exact .inr (by show some (compare _ _) = _; rw [Int.compare_eq_eq.mpr rfl])
  | fin s c q => exact .inr (by show some (compare _ _) = _; rw [Int.compare_eq_eq.mpr rfl])
theorem zero32 : FP.Core.decode FP.Core.b32 FP.fconst0.toNat = .fin false 0 (-149) := by decide +kernel
theorem zero64 : FP.Core.decode FP.Core.b64 FP.dconst0.toNat = .fin false 0 (-1074) := by decide +kernel
theorem cmp0_32 {c : Nat} {q : Int} (h : N32 c q) : Op.cmpValue (FP.fcmp (F32 c q) FP.fconst0) .g = 1 := by
  show Op.cmpValue (FP.Core.order (FP.Core.decode FP.Core.b32 _) (FP.Core.decode FP.Core.b32 _)) .g = 1
  rw [d32 h, zero32, ord_pos (by have := h.1; omega)]
  rfl
theorem cmp0_64 {c : Nat} {q : Int} (h : N64 c q) : Op.cmpValue (FP.dcmp (F64 c q) FP.dconst0) .g = 1 := by
  show Op.cmpValue (FP.Core.order (FP.Core.decode FP.Core.b64 _) (FP.Core.decode FP.Core.b64 _)) .g = 1
  rw [d64 h, zero64, ord_pos (by have := h.1; omega)]
  rfl
theorem cmp1_32 {c : Nat} {q : Int} (h : N32 c q) (hq : q ≤ -23) : Op.cmpValue (FP.fcmp (F32 c q) FP.fconst1) .g < 0 ↔ q ≤ -24 := by
  obtain ⟨a1, a2, a3, a4, a5⟩ := q32
  have e : Op.cmpValue (FP.fcmp (F32 c q) FP.fconst1) .g = Op.cmpValue (FP.Core.order (.fin false c q) (.fin false FP.Core.b32.tails (-23))) .g := by
    show Op.cmpValue (FP.Core.order (FP.Core.decode FP.Core.b32 _) (FP.Core.decode FP.Core.b32 _)) .g = _
    rw [d32 h, one32]
  rw [e]
  by_cases k : q ≤ -24
  · have := ord_lt fok32 (c := c) (q := q) (by rw [a5]; exact h.2.1) (by rw [a4]; omega)
    rw [a4] at this
    rw [show (1 - ((24 : Nat) : Int)) = -23 by decide] at this
    rw [this]
    exact ⟨fun _ => k, fun _ => by decide⟩
  · have hq2 : q = -23 := by omega
    subst hq2
    rcases ord_ge (f := FP.Core.b32) (c := c) (q := -23) (by rw [a1]; exact h.1) with z | z <;> rw [z]
    · exact ⟨fun y => absurd y (by decide), fun y => absurd y k⟩
    · exact ⟨fun y => absurd y (by decide), fun y => absurd y k⟩
theorem cmp1_64 {c : Nat} {q : Int} (h : N64 c q) (hq : q ≤ -52) : Op.cmpValue (FP.dcmp (F64 c q) FP.dconst1) .g < 0 ↔ q ≤ -53 := by
  obtain ⟨a1, a2, a3, a4, a5⟩ := q64
  have e : Op.cmpValue (FP.dcmp (F64 c q) FP.dconst1) .g = Op.cmpValue (FP.Core.order (.fin false c q) (.fin false FP.Core.b64.tails (-52))) .g := by
    show Op.cmpValue (FP.Core.order (FP.Core.decode FP.Core.b64 _) (FP.Core.decode FP.Core.b64 _)) .g = _
    rw [d64 h, one64]
  rw [e]
  by_cases k : q ≤ -53
  · have := ord_lt fok64 (c := c) (q := q) (by rw [a5]; exact h.2.1) (by rw [a4]; omega)
    rw [a4] at this
    rw [show (1 - ((53 : Nat) : Int)) = -52 by decide] at this
    rw [this]
    exact ⟨fun _ => k, fun _ => by decide⟩
  · have hq2 : q = -52 := by omega
    subst hq2
    rcases ord_ge (f := FP.Core.b64) (c := c) (q := -52) (by rw [a1]; exact h.1) with z | z <;> rw [z]
    · exact ⟨fun y => absurd y (by decide), fun y => absurd y k⟩
    · exact ⟨fun y => absurd y (by decide), fun y => absurd y k⟩
theorem cmpS_64 (x : UInt64) (op : Jvm.ClassFile.CmpOp) : FP.dcmp x x = none ∨ FP.dcmp x x = some .eq := ord_self _
theorem cmpS_32 (x : UInt32) : FP.fcmp x x = none ∨ FP.fcmp x x = some .eq := ord_self _
/-- the bits, as the number that the doublings give -/
def bt32 (c : Nat) (q : Int) : Nat := ((q + 149).toNat + 1) * 8388608 + (c - 8388608)
def bt64 (c : Nat) (q : Int) : Nat := ((q + 1074).toNat + 1) * 4503599627370496 + (c - 4503599627370496)
theorem bits32 {c : Nat} {q : Int} (h : N32 c q) : (F32 c q).toInt32 = nI (bt32 c q) := by
  unfold F32
  rw [e32 h]
  rfl
theorem bits64 {c : Nat} {q : Int} (h : N64 c q) : (F64 c q).toInt64 = Int64.ofNat (bt64 c q) := by
  unfold F64
  rw [e64 h]
  rfl
theorem ncm32 {x : UInt32} (h : Sh32 x) : Op.cmpValue (FP.fcmp x x) .l = 0 := by
  rcases h with rfl | ⟨c, q, h1, h2, rfl⟩
  · decide +kernel
  · show Op.cmpValue (FP.Core.order (FP.Core.decode FP.Core.b32 _) (FP.Core.decode FP.Core.b32 _)) .l = 0
    rw [d32 h1]
    rcases ord_self (.fin false c q) with z | z
    · cases z
    · rw [z]; rfl
theorem ncm64 {x : UInt64} (h : Sh64 x) : Op.cmpValue (FP.dcmp x x) .l = 0 := by
  rcases h with rfl | ⟨c, q, h1, h2, rfl⟩
  · decide +kernel
  · show Op.cmpValue (FP.Core.order (FP.Core.decode FP.Core.b64 _) (FP.Core.decode FP.Core.b64 _)) .l = 0
    rw [d64 h1]
    rcases ord_self (.fin false c q) with z | z
    · cases z
    · rw [z]; rfl
/-- a float share as a double is no NaN -/
theorem f2d_n {x : UInt32} (h : Sh32 x) : vf_n64 (FP.f2d x) := by
  rcases h with rfl | ⟨c, q, h1, h2, rfl⟩
  · exact n64_of (by decide +kernel)
  · have hd := d32 h1
    obtain ⟨g1, g2, g3, g4⟩ := h1
    have hN : N64 (c * 2 ^ 29) (q - 29) := ⟨by omega, by omega, by omega, by omega⟩
    have e : FP.f2d (F32 c q) = F64 (c * 2 ^ 29) (q - 29) := by
      show (if FP.Core.isNaN FP.Core.b32 (F32 c q).toNat = true then _ else UInt64.ofNat (FP.Core.convert FP.Core.b32 FP.Core.b64 (F32 c q).toNat)) = _
      rw [if_neg (by unfold FP.Core.isNaN; rw [hd]; intro h; cases (of_decide_eq_true h))]
      unfold FP.Core.convert F64
      rw [hd]
      show UInt64.ofNat (FP.Core.encode FP.Core.b64 (FP.Core.roundRatio FP.Core.b64 false c 1 q)) = _
      rw [fp_exact fok64 (nrm64.mpr hN) (by
        rw [show (q - (q - 29)).toNat = 29 by omega, show (q - 29 - q).toNat = 0 by omega, Nat.pow_zero, Nat.mul_one])]
    rw [e]
    exact n64 hN
