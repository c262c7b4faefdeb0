/-! the two readings of a text are one -/
def eR (t : Nat → Nat) : Nat → Option Nat
  | 0 => some 0
  | k + 1 => ebF (eR t k) (t k)
def rR (t : Nat → Nat) : Nat → Nat
  | 0 => 0
  | k + 1 => rtN (rR t k) (eR t (k + 1))
theorem eR_s {t : Nat → Nat} {k : Nat} {e : Option Nat} (h : eR t k = e) : eR t (k + 1) = ebF e (t k) := by rw [← h]; rfl
/-- the reader stands at q, the other's state there is a number; ok: a part may end there -/
def stp (t : Nat → Nat) (n q : Nat) (ok : Bool) : Prop := q ≤ n ∧ ∃ v, eR t q = some v ∧ (if ok = true then 7 ≤ v ∧ (q < n → ebF (some v) (t q) = if t q = 59 then some 0 else none) else v < 7 ∧ (q < n → ebF (some v) (t q) = none))
theorem stp_t {t : Nat → Nat} {n q : Nat} (v : Nat) (hq : q ≤ n) (h1 : eR t q = some v) (h2 : 7 ≤ v) (h3 : q < n → ebF (some v) (t q) = if t q = 59 then some 0 else none) : stp t n q true := ⟨hq, v, h1, by rw [if_pos rfl]; exact ⟨h2, h3⟩⟩
theorem stp_f {t : Nat → Nat} {n q : Nat} (v : Nat) (hq : q ≤ n) (h1 : eR t q = some v) (h2 : v < 7) (h3 : q < n → ebF (some v) (t q) = none) : stp t n q false := ⟨hq, v, h1, by rw [if_neg (by decide)]; exact ⟨h2, h3⟩⟩
theorem stp_10 {t : Nat → Nat} {n q : Nat} (hq : q ≤ n) (h1 : eR t q = some 10) : stp t n q true := stp_t 10 hq h1 (by decide) fun _ => rfl
theorem dgG {t : Nat → Nat} {n s M st two g : Nat} (hst : ∀ c, ebF (some st) c = eb1 c two) (htw : ∀ c, ebF (some two) c = eb2 c g) (hM : M = 20 ∧ g = 48 ∨ M = 24 ∧ g = 52) (h7 : 7 ≤ two) (hs7 : st < 7) (h : s ≤ n) (he : eR t s = some st) : (nb t n s M = none → stp t n s false) ∧ (∀ v, nb t n s M = some v → stp t n (nbS t n s M) true) := by
  have hh : hiM M = 57 := by unfold hiM; rw [if_neg (by omega)]
  have e1 : eR t (s + 1) = eb1 (t s) two := by rw [eR_s he, hst]
  by_cases p : tkP t n s 49 (hiM M)
  · have pp := p
    rw [hh] at pp
    obtain ⟨p0, p1, p9⟩ := pp
    have hc : t s = 49 ∨ t s = 50 ∨ 51 ≤ t s := by omega
    rcases hc with hc | hc | hc
    · have e1' : eR t (s + 1) = some 7 := by rw [e1]; unfold eb1; rw [if_pos hc]
      have e2 := eR_s e1'
      by_cases p2 : nbP t n (s + 1) (t s - 49 + 1) M
      · have q := nb_2 p p2
        refine ⟨fun k => (by rw [q.1] at k; cases k), fun v _ => ?_⟩
        rw [q.2]
        refine stp_10 (by have := p2.1.1; omega) (e2.trans ?_)
        show eb2 _ 57 = _
        unfold eb2
        exact if_pos p2.1.2
      · have q := nb_1 p p2
        refine ⟨fun k => (by rw [q.1] at k; cases k), fun v _ => ?_⟩
        rw [q.2]
        refine stp_t 7 (by omega) e1' (by decide) fun hq => ?_
        show eb2 _ 57 = _
        unfold eb2
        exact if_neg fun k => p2 ⟨⟨hq, k.1, k.2⟩, by omega⟩
    · have e1' : eR t (s + 1) = some two := by rw [e1]; unfold eb1; rw [if_neg (by omega), if_pos hc]
      have e2 := eR_s e1'
      by_cases p2 : nbP t n (s + 1) (t s - 49 + 1) M
      · have q := nb_2 p p2
        refine ⟨fun k => (by rw [q.1] at k; cases k), fun v _ => ?_⟩
        rw [q.2]
        refine stp_10 (by have := p2.1.1; omega) (e2.trans ?_)
        rw [htw]
        unfold eb2
        exact if_pos ⟨p2.1.2.1, by have := p2.2; omega⟩
      · have q := nb_1 p p2
        refine ⟨fun k => (by rw [q.1] at k; cases k), fun v _ => ?_⟩
        rw [q.2]
        refine stp_t two (by omega) e1' h7 fun hq => ?_
        rw [htw]
        unfold eb2
        exact if_neg fun k => p2 ⟨⟨hq, k.1, by omega⟩, by omega⟩
    · have e1' : eR t (s + 1) = some 10 := by rw [e1]; unfold eb1; rw [if_neg (by omega), if_neg (by omega), if_pos ⟨hc, p9⟩]
      have p2 : ¬ nbP t n (s + 1) (t s - 49 + 1) M := fun k => by have := k.1.2.1; have := k.2; omega
      have q := nb_1 p p2
      refine ⟨fun k => (by rw [q.1] at k; cases k), fun v _ => ?_⟩
      rw [q.2]
      exact stp_10 (by omega) e1'
  · have q := nb_n (M := M) p
    refine ⟨fun _ => stp_f st h he hs7 fun hq => ?_, fun v k => by rw [q.1] at k; cases k⟩
    rw [hst]
    rw [hh] at p
    unfold eb1
    rw [if_neg fun k => p ⟨hq, by omega, by omega⟩, if_neg fun k => p ⟨hq, by omega, by omega⟩]
    exact if_neg fun k => p ⟨hq, by omega, by omega⟩
theorem dg5 {t : Nat → Nat} {n s : Nat} (h : s ≤ n) (he : eR t s = some 6) : (nb t n s 5 = none → stp t n s false) ∧ (∀ v, nb t n s 5 = some v → stp t n (nbS t n s 5) true) := by
  have e1 := eR_s he
  by_cases p : tkP t n s 49 (hiM 5)
  · have pp : s < n ∧ 49 ≤ t s ∧ t s ≤ 53 := p
    have p2 : ¬ nbP t n (s + 1) (t s - 49 + 1) 5 := fun k => by have := k.1.2.1; have := k.2; omega
    have q := nb_1 p p2
    refine ⟨fun k => (by rw [q.1] at k; cases k), fun v _ => ?_⟩
    rw [q.2]
    refine stp_10 (by omega) (e1.trans ?_)
    exact if_pos pp.2
  · have q := nb_n (M := 5) p
    refine ⟨fun _ => stp_f 6 h he (by decide) fun hq => ?_, fun v k => by rw [q.1] at k; cases k⟩
    exact if_neg fun k => p ⟨hq, k.1, k.2⟩
theorem nb_none_S {t : Nat → Nat} {n s M : Nat} (h : nb t n s M = none) : nbS t n s M = s ∧ nbB t n s M false = decide (s < n) := by
  have p : ¬ tkP t n s 49 (hiM M) := fun p => by
    by_cases p2 : nbP t n (s + 1) (t s - 49 + 1) M
    · rw [(nb_2 p p2).1] at h; cases h
    · rw [(nb_1 p p2).1] at h; cases h
  exact ⟨(nb_n p).2, by unfold nbB; rw [tkB_n p]; rfl⟩
/-- a part -/
theorem prt {t : Nat → Nat} {n s : Nat} (h : s ≤ n) (he : eR t s = some 0) : stp t n (nxF t n s) (okF t n s) ∧ (okF t n s = false → bdF t n s false = decide (nxF t n s < n)) := by
  rcases lC_cases (t := t) (n := n) (sp := s) with c | c | c | c | c | c | c
  · have o := oF_97 (bd := false) (o1 := 0) (o2 := 0) c
    obtain ⟨hs, hc⟩ := lC_lt c (by decide)
    rw [o.1, o.2.1, o.2.2.1]
    have e1 : eR t (s + 1) = some 1 := by rw [eR_s he, hc]; rfl
    have e2 := eR_s e1
    by_cases p : tkP t n (s + 1) 48 49
    · have a1 : aO1 t n s = some (t (s + 1) - 48) := tk_y p
      have a2 : aS2 t n s = s + 1 + 1 := tkS_y p
      have e2' : eR t (s + 1 + 1) = some 2 := by rw [e2]; exact if_pos p.2
      have e3 := eR_s e2'
      by_cases p2 : tkP t n (s + 1 + 1) 58 58
      · have b1 : aO2 t n s = some (t (s + 1 + 1) - 58) := by unfold aO2; rw [a2]; exact tk_y p2
        have b2 : aS3 t n s = s + 1 + 1 + 1 := by unfold aS3; rw [a2]; exact tkS_y p2
        have e3' : eR t (s + 1 + 1 + 1) = some 3 := by rw [e3]; exact if_pos (by have := p2.2; omega)
        have k := dgG (M := 20) (st := 3) (two := 8) (g := 48) (n := n) (fun _ => rfl) (fun _ => rfl) (.inl ⟨rfl, rfl⟩) (by decide) (by decide) (by have := p2.1; omega) e3'
        have hS : aS t n s = nbS t n (s + 1 + 1 + 1) 20 := by unfold aS; rw [a1, if_neg (by simp), b1, if_neg (by simp), b2]
        have hO : aO3 t n s = nb t n (s + 1 + 1 + 1) 20 := by unfold aO3; rw [b2]
        rw [hS]
        cases hv : nb t n (s + 1 + 1 + 1) 20 with
        | none =>
          have hok : aOk t n s = false := by unfold aOk; rw [a1, b1, hO, hv]; rfl
          rw [hok]
          have q := nb_none_S hv
          rw [q.1]
          refine ⟨k.1 hv, fun _ => ?_⟩
          unfold aB
          rw [a1, if_neg (by simp), b1, if_neg (by simp), b2, a2, tkB_y p, tkB_y p2]
          exact q.2
        | some v =>
          have hok : aOk t n s = true := by unfold aOk; rw [a1, b1, hO, hv]; rfl
          rw [hok]
          exact ⟨k.2 v hv, fun q => by cases q⟩
      · have b1 : aO2 t n s = none := by unfold aO2; rw [a2]; exact tk_n p2
        have b2 : aS3 t n s = s + 1 + 1 := by unfold aS3; rw [a2]; exact tkS_n p2
        have hS : aS t n s = s + 1 + 1 := by unfold aS; rw [a1, if_neg (by simp), if_pos b1, b2]
        have hok : aOk t n s = false := by unfold aOk; rw [a1, b1]; rfl
        rw [hok, hS]
        refine ⟨stp_f 2 (by have := p.1; omega) e2' (by decide) fun hq => if_neg fun k => p2 ⟨hq, by omega, by omega⟩, fun _ => ?_⟩
        unfold aB
        rw [a1, if_neg (by simp), if_pos b1, a2, tkB_y p, tkB_n p2]
        rfl
    · have a1 : aO1 t n s = none := tk_n p
      have a2 : aS2 t n s = s + 1 := tkS_n p
      have hS : aS t n s = s + 1 := by unfold aS; rw [if_pos a1, a2]
      have hok : aOk t n s = false := by unfold aOk; rw [a1]; rfl
      rw [hok, hS]
      refine ⟨stp_f 1 (by omega) e1 (by decide) fun hq => if_neg fun k => p ⟨hq, k.1, k.2⟩, fun _ => ?_⟩
      unfold aB
      rw [if_pos a1, tkB_n p]
      rfl
  · have o := oF_108 (bd := false) (o1 := 0) (o2 := 0) c
    obtain ⟨hs, hc⟩ := lC_lt c (by decide)
    rw [o.1, o.2.1, o.2.2.1]
    have e1 : eR t (s + 1) = some 4 := by rw [eR_s he, hc]; rfl
    have e2 := eR_s e1
    by_cases p : tkP t n (s + 1) 48 49
    · have a1 : aO1 t n s = some (t (s + 1) - 48) := tk_y p
      have a2 : aS2 t n s = s + 1 + 1 := tkS_y p
      have e2' : eR t (s + 1 + 1) = some 10 := by rw [e2]; exact if_pos p.2
      rw [a1, a2]
      exact ⟨stp_10 (by have := p.1; omega) e2', fun q => by cases q⟩
    · have a1 : aO1 t n s = none := tk_n p
      have a2 : aS2 t n s = s + 1 := tkS_n p
      rw [a1, a2]
      refine ⟨stp_f 4 (by omega) e1 (by decide) fun hq => if_neg fun k => p ⟨hq, k.1, k.2⟩, fun _ => ?_⟩
      rw [tkB_n p]
      rfl
  · have o := oF_117 (bd := false) (o1 := 0) (o2 := 0) c
    obtain ⟨hs, hc⟩ := lC_lt c (by decide)
    rw [o.1, o.2.1, o.2.2.1]
    exact ⟨stp_10 (by omega) (by rw [eR_s he, hc]; rfl), fun q => by cases q⟩
  · have o := oF_120 (bd := false) (o1 := 0) (o2 := 0) c
    obtain ⟨hs, hc⟩ := lC_lt c (by decide)
    rw [o.1, o.2.1, o.2.2.1]
    exact ⟨stp_10 (by omega) (by rw [eR_s he, hc]; rfl), fun q => by cases q⟩
  · have o := oF_119 (bd := false) (o1 := 0) (o2 := 0) c
    obtain ⟨hs, hc⟩ := lC_lt c (by decide)
    rw [o.1, o.2.1, o.2.2.1]
    have e1 : eR t (s + 1) = some 5 := by rw [eR_s he, hc]; rfl
    have k := dgG (M := 24) (st := 5) (two := 9) (g := 52) (n := n) (fun _ => rfl) (fun _ => rfl) (.inr ⟨rfl, rfl⟩) (by decide) (by decide) (by omega) e1
    cases hv : nb t n (s + 1) 24 with
    | none =>
      have q := nb_none_S hv
      rw [q.1]
      exact ⟨k.1 hv, fun _ => q.2⟩
    | some v => exact ⟨k.2 v hv, fun q => by cases q⟩
  · have o := oF_100 (bd := false) (o1 := 0) (o2 := 0) c
    obtain ⟨hs, hc⟩ := lC_lt c (by decide)
    rw [o.1, o.2.1, o.2.2.1]
    have e1 : eR t (s + 1) = some 6 := by rw [eR_s he, hc]; rfl
    have k := dg5 (n := n) (by omega) e1
    cases hv : nb t n (s + 1) 5 with
    | none =>
      have q := nb_none_S hv
      rw [q.1]
      exact ⟨k.1 hv, fun _ => q.2⟩
    | some v => exact ⟨k.2 v hv, fun q => by cases q⟩
  · have o := oF_n (bd := false) (o1 := 0) (o2 := 0) c
    rw [o.1, o.2.1, o.2.2.1]
    refine ⟨stp_f 0 h he (by decide) fun hq => ?_, fun _ => rfl⟩
    have hc : lC t n s = t s := if_pos hq
    rw [hc] at c
    simp [isL] at c
    obtain ⟨h1, h2, h3, h4, h5, h6⟩ := c
    show ebK _ = _
    simp [ebK, h1, h2, h3, h4, h5, h6]
