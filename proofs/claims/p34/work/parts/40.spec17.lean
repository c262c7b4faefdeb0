theorem eR_nn {t : Nat → Nat} {i j : Nat} (h : eR t i = none) (hij : i ≤ j) : eR t j = none := by
  induction j with
  | zero => rw [show (0 : Nat) = i by omega]; exact h
  | succ j ih =>
    rcases Nat.lt_or_ge j i with q | q
    · rw [show j + 1 = i by omega]; exact h
    · rw [eR_s (ih q)]; rfl
theorem rR_k {t : Nat → Nat} {k : Nat} (h : ¬ eR t k = none) : rR t k = k := by
  induction k with
  | zero => rfl
  | succ k ih =>
    show rtN (rR t k) (eR t (k + 1)) = _
    rw [ih fun q => h (eR_nn q (Nat.le_succ k))]
    exact if_neg h
theorem rR_st {t : Nat → Nat} {q n : Nat} (h : ¬ eR t q = none) (h1 : eR t (q + 1) = none) (hq : q ≤ n) : rR t n = q := by
  induction n with
  | zero => rw [show q = 0 by omega]; rfl
  | succ n ih =>
    rcases Nat.lt_or_ge n q with k | k
    · rw [show n + 1 = q by omega]; exact rR_k h
    · show rtN (rR t n) (eR t (n + 1)) = _
      rw [ih k, eR_nn h1 (by omega)]
      rfl
theorem rd {t : Nat → Nat} {n k s : Nat} (hk : n - s < k) (hs : s ≤ n) (he : eR t s = some 0) : (pW t n k s = true ↔ eCp (eR t n) = true) ∧ rR t n = (if pB t n k s = true then pS t n k s else n) := by
  induction k generalizing s with
  | zero => omega
  | succ k ih =>
    obtain ⟨⟨hq, v, hv, hc⟩, hbd⟩ := prt hs he
    have hnn : ¬ eR t (nxF t n s) = none := by rw [hv]; simp
    by_cases o : okF t n s = true
    · rw [if_pos o] at hc
      have hlt := (nxF_le hs).2.2 o
      by_cases m : moF t n s
      · have e1 : eR t (nxF t n s + 1) = some 0 := by rw [eR_s hv, hc.2 m.1, if_pos (by have := m.2; omega)]
        have q := p_m (k := k) o m
        rw [q.1, q.2.1, q.2.2.1]
        exact ih (by have := m.1; omega) (by have := m.1; omega) e1
      · have q := p_e (k := k) o m
        rw [q.1, q.2.1, q.2.2.1]
        rcases Nat.lt_or_ge (nxF t n s) n with l | l
        · have e1 : eR t (nxF t n s + 1) = none := by rw [eR_s hv, hc.2 l, if_neg fun w => m ⟨l, by omega, by omega⟩]
          rw [rR_st hnn e1 hq, eR_nn e1 l]
          simp [eCp, l, Nat.ne_of_lt l]
        · have e : nxF t n s = n := by omega
          rw [e] at hv hnn ⊢
          rw [rR_k hnn, hv]
          simp [eCp, hc.1]
    · have o' : okF t n s = false := by simpa using o
      rw [if_neg o] at hc
      have q := p_n (k := k) o'
      rw [q.1, q.2.1, q.2.2.1, hbd o']
      rcases Nat.lt_or_ge (nxF t n s) n with l | l
      · have e1 : eR t (nxF t n s + 1) = none := by rw [eR_s hv, hc.2 l]
        rw [rR_st hnn e1 hq, eR_nn e1 l]
        simp [eCp, l]
      · have e : nxF t n s = n := by omega
        rw [e] at hv hnn ⊢
        rw [rR_k hnn, hv]
        simp [eCp]
        omega
theorem feR_rR {t : Nat → Nat} {n : Nat} : feR t n = rR t n := ((rd (t := t) (n := n) (k := n + 1) (s := 0) (by omega) (Nat.zero_le _) rfl).2).symm
theorem pW_cp {t : Nat → Nat} {n : Nat} : pW t n (n + 1) 0 = true ↔ eCp (eR t n) = true := (rd (by omega) (Nat.zero_le _) rfl).1
/-! the class's way through the parts, and the reader's -/
theorem nbS_ch {t : Nat → Nat} {n s M v : Nat} (h : nb t n s M = some v) : ∀ i, s ≤ i → i < nbS t n s M → 48 ≤ t i ∧ t i ≤ 57 ∨ hiM M > 57 := by
  intro i h1 h2
  by_cases p : tkP t n s 49 (hiM M)
  · by_cases p2 : nbP t n (s + 1) (t s - 49 + 1) M
    · rw [(nb_2 p p2).2] at h2
      have hc : i = s ∨ i = s + 1 := by omega
      rcases hc with rfl | rfl
      · have := p.2; omega
      · exact .inl p2.1.2
    · rw [(nb_1 p p2).2] at h2
      have hc : i = s := by omega
      subst hc
      have := p.2
      omega
  · rw [(nb_n p).1] at h; cases h
theorem hiM_l7 {M : Nat} : hiM M ≤ 57 := by unfold hiM; split <;> omega
theorem nu1 {t : Nat → Nat} {n s : Nat} (h : s < n) (hd : 48 ≤ t s ∧ t s ≤ 57) (hn : ¬ (s + 1 < n ∧ 48 ≤ t (s + 1) ∧ t (s + 1) ≤ 57)) : nuF t n (n - s) s 0 = t s - 48 := by
  rw [nuF_s h hd]
  by_cases q : s + 1 < n
  · rw [nuF_d fun k => hn ⟨q, k⟩]; omega
  · rw [nuF_e q]; omega
theorem nu2 {t : Nat → Nat} {n s : Nat} (h : s + 1 < n) (hd : 48 ≤ t s ∧ t s ≤ 57) (hd2 : 48 ≤ t (s + 1) ∧ t (s + 1) ≤ 57) (hn : ¬ (s + 1 + 1 < n ∧ 48 ≤ t (s + 1 + 1) ∧ t (s + 1 + 1) ≤ 57)) : nuF t n (n - s) s 0 = 10 * (t s - 48) + t (s + 1) - 48 := by
  rw [nuF_s (by omega) hd, nuF_s h hd2]
  by_cases q : s + 1 + 1 < n
  · rw [nuF_d fun k => hn ⟨q, k⟩]; omega
  · rw [nuF_e q]; omega
theorem nb_nu {t : Nat → Nat} {n s M v : Nat} (h : nb t n s M = some v) (hn : ¬ (nbS t n s M < n ∧ 48 ≤ t (nbS t n s M) ∧ t (nbS t n s M) ≤ 57)) : nuF t n (n - s) s 0 = v := by
  have hh := hiM_l7 (M := M)
  by_cases p : tkP t n s 49 (hiM M)
  · by_cases p2 : nbP t n (s + 1) (t s - 49 + 1) M
    · have q := nb_2 p p2
      rw [q.2] at hn
      rw [q.1] at h
      injection h with h
      rw [nu2 p2.1.1 (by have := p.2; omega) p2.1.2 hn]
      have := p.2
      omega
    · have q := nb_1 p p2
      rw [q.2] at hn
      rw [q.1] at h
      injection h with h
      rw [nu1 p.1 (by have := p.2; omega) hn]
      have := p.2
      omega
  · rw [(nb_n p).1] at h; cases h
theorem tk_nu {t : Nat → Nat} {n s v : Nat} (h : tk t n s 48 49 = some v) (hn : ¬ (s + 1 < n ∧ 48 ≤ t (s + 1) ∧ t (s + 1) ≤ 57)) : nuF t n (n - s) s 0 = v := by
  by_cases p : tkP t n s 48 49
  · rw [tk_y p] at h
    injection h with h
    rw [nu1 p.1 (by have := p.2; omega) hn]
    exact h
  · rw [tk_n p] at h; cases h
theorem tk_some {t : Nat → Nat} {n s lo hi : Nat} (h : (tk t n s lo hi).isSome = true) : tkP t n s lo hi := by
  by_cases p : tkP t n s lo hi
  · exact p
  · rw [tk_n p] at h; cases h
abbrev nuA (t : Nat → Nat) (n s : Nat) : Nat := nuF t n (n - s) s 0
/-- a right part, with nothing but its end behind it -/
theorem prt_x {t : Nat → Nat} {n s : Nat} (hs : s ≤ n) (o : okF t n s = true) (hn : ¬ (nxF t n s < n ∧ 48 ≤ t (nxF t n s) ∧ t (nxF t n s) ≤ 57)) :
    (∀ i, s ≤ i → i < nxF t n s → ¬ t i = 59) ∧ s < n ∧ lC t n s = t s ∧ (t s = 97 → nuA t n (s + 1) = oX t n s ∧ nuA t n (s + 3) = oY t n s) ∧ (t s = 108 → nuA t n (s + 1) = oX t n s) ∧ (t s = 119 → nuA t n (s + 1) = oX t n s) ∧ (t s = 100 → nuA t n (s + 1) = oX t n s) := by
  rcases lC_cases (t := t) (n := n) (sp := s) with c | c | c | c | c | c | c
  · have k := oF_97 (bd := false) (o1 := 0) (o2 := 0) c
    obtain ⟨hl, hc⟩ := lC_lt c (by decide)
    rw [k.1] at o
    rw [k.2.1] at hn ⊢
    unfold aOk at o
    simp only [Bool.and_eq_true] at o
    obtain ⟨p1, p2, p3⟩ := o
    have p1' : tkP t n (s + 1) 48 49 := tk_some p1
    have a1 : aO1 t n s = some (t (s + 1) - 48) := tk_y p1'
    have a2 : aS2 t n s = s + 1 + 1 := tkS_y p1'
    have p2' : tkP t n (s + 1 + 1) 58 58 := by unfold aO2 at p2; rw [a2] at p2; exact tk_some p2
    have b1 : aO2 t n s = some (t (s + 1 + 1) - 58) := by unfold aO2; rw [a2]; exact tk_y p2'
    have b2 : aS3 t n s = s + 1 + 1 + 1 := by unfold aS3; rw [a2]; exact tkS_y p2'
    have hS : aS t n s = nbS t n (s + 1 + 1 + 1) 20 := by unfold aS; rw [a1, if_neg (by simp), b1, if_neg (by simp), b2]
    have hO : aO3 t n s = nb t n (s + 1 + 1 + 1) 20 := by unfold aO3; rw [b2]
    rw [hS] at hn ⊢
    rw [hO] at p3
    obtain ⟨v, hv⟩ := Option.isSome_iff_exists.mp p3
    refine ⟨fun i h1 h2 q => ?_, hl, by rw [c, hc], fun _ => ⟨?_, ?_⟩, by omega, by omega, by omega⟩
    · have hcs : i = s ∨ i = s + 1 ∨ i = s + 1 + 1 ∨ s + 1 + 1 + 1 ≤ i := by omega
      rcases hcs with rfl | rfl | rfl | hcs
      · omega
      · have := p1'.2; omega
      · have := p2'.2; omega
      · have := nbS_ch hv i hcs h2
        have := hiM_l7 (M := 20)
        omega
    · show nuF t n (n - (s + 1)) (s + 1) 0 = _
      rw [tk_nu a1 (by have := p2'.2; omega)]
      unfold oX
      rw [if_pos c, a1]
      rfl
    · show nuF t n (n - (s + 1 + 1 + 1)) (s + 1 + 1 + 1) 0 = _
      rw [nb_nu hv hn]
      unfold oY
      rw [if_pos c, hO, hv]
      rfl
  · have k := oF_108 (bd := false) (o1 := 0) (o2 := 0) c
    obtain ⟨hl, hc⟩ := lC_lt c (by decide)
    rw [k.1] at o
    rw [k.2.1] at hn ⊢
    have p1' : tkP t n (s + 1) 48 49 := tk_some o
    have a1 : aO1 t n s = some (t (s + 1) - 48) := tk_y p1'
    have a2 : aS2 t n s = s + 1 + 1 := tkS_y p1'
    rw [a2] at hn ⊢
    refine ⟨fun i h1 h2 q => ?_, hl, by rw [c, hc], by omega, fun _ => ?_, by omega, by omega⟩
    · have hcs : i = s ∨ i = s + 1 := by omega
      rcases hcs with rfl | rfl
      · omega
      · have := p1'.2; omega
    · show nuF t n (n - (s + 1)) (s + 1) 0 = _
      rw [tk_nu a1 hn]
      unfold oX
      rw [if_neg (by omega), if_pos c, a1]
      rfl
  · have k := oF_117 (bd := false) (o1 := 0) (o2 := 0) c
    obtain ⟨hl, hc⟩ := lC_lt c (by decide)
    rw [k.2.1]
    refine ⟨fun i h1 h2 q => ?_, hl, by rw [c, hc], by omega, by omega, by omega, by omega⟩
    have hcs : i = s := by omega
    subst hcs
    omega
  · have k := oF_120 (bd := false) (o1 := 0) (o2 := 0) c
    obtain ⟨hl, hc⟩ := lC_lt c (by decide)
    rw [k.2.1]
    refine ⟨fun i h1 h2 q => ?_, hl, by rw [c, hc], by omega, by omega, by omega, by omega⟩
    have hcs : i = s := by omega
    subst hcs
    omega
  · have k := oF_119 (bd := false) (o1 := 0) (o2 := 0) c
    obtain ⟨hl, hc⟩ := lC_lt c (by decide)
    rw [k.1] at o
    rw [k.2.1] at hn ⊢
    obtain ⟨v, hv⟩ := Option.isSome_iff_exists.mp o
    refine ⟨fun i h1 h2 q => ?_, hl, by rw [c, hc], by omega, by omega, fun _ => ?_, by omega⟩
    · have hcs : i = s ∨ s + 1 ≤ i := by omega
      rcases hcs with rfl | hcs
      · omega
      · have := nbS_ch hv i hcs h2
        have := hiM_l7 (M := 24)
        omega
    · show nuF t n (n - (s + 1)) (s + 1) 0 = _
      rw [nb_nu hv hn]
      unfold oX
      rw [if_neg (by omega), if_neg (by omega), if_pos c, hv]
      rfl
  · have k := oF_100 (bd := false) (o1 := 0) (o2 := 0) c
    obtain ⟨hl, hc⟩ := lC_lt c (by decide)
    rw [k.1] at o
    rw [k.2.1] at hn ⊢
    obtain ⟨v, hv⟩ := Option.isSome_iff_exists.mp o
    refine ⟨fun i h1 h2 q => ?_, hl, by rw [c, hc], by omega, by omega, by omega, fun _ => ?_⟩
    · have hcs : i = s ∨ s + 1 ≤ i := by omega
      rcases hcs with rfl | hcs
      · omega
      · have := nbS_ch hv i hcs h2
        have := hiM_l7 (M := 5)
        omega
    · show nuF t n (n - (s + 1)) (s + 1) 0 = _
      rw [nb_nu hv hn]
      unfold oX
      rw [if_neg (by omega), if_neg (by omega), if_neg (by omega), if_pos c, hv]
      rfl
  · have k := oF_n (bd := false) (o1 := 0) (o2 := 0) c
    rw [k.1] at o
    cases o
