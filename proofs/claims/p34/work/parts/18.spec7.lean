/-! what orders do, and that the ranges hold -/
theorem lod_lo {f : Nat → Int32} {a j : Nat} (h : j < 57) : fLod f a j = f j := by
  have e : fAt f = 57 + 11 * nn f 51 := rfl
  unfold fLod
  rw [pk_un (by omega), pk_un (by omega), pk_un (by omega), l1_o (by omega)]
theorem okf_lod {B a : Nat} {f : Nat → Int32} (h : Okf B f) (ha : a < 2) (hc : fCan f a = true) : Okf B (fLod f a) := by
  have e : fAt f = 57 + 11 * nn f 51 := rfl
  simp only [fCan, decide_eq_true_eq] at hc
  obtain ⟨hc1, hc2⟩ := hc
  replace hc2 : nn f (79 + 9 * a) < 4 := hc2
  obtain ⟨h1, h2, ⟨h3, h4, h5, h6, h7, h8, h9⟩, h10, h11, h12, h13, h14, h15⟩ := h
  have h7b := h7.2
  have hq := h10 (nn f 51) (by omega)
  have hqb := hq.1.2
  have hn := h11 a ha
  have f3 : ∀ j, j < fAt f ∨ fAt f + 10 < j → j ≠ 79 + 9 * a → j ≠ 79 + 9 * a + 1 + 2 * nn f (79 + 9 * a) → j ≠ 79 + 9 * a + 2 + 2 * nn f (79 + 9 * a) → fLod f a j = f j := by
    intro j g1 g2 g3 g4
    unfold fLod
    rw [pk_un g2, pk_un g4, pk_un g3, l1_o g1]
  have f1 : fLod f a (79 + 9 * a) = nI (nn f (79 + 9 * a) + 1) := by
    unfold fLod
    rw [pk_us, hn.1.1, nI_add]
  refine ⟨fun k hk => rg_c (lod_lo (by omega)) (h1 k hk), fun k hk => rg_c (lod_lo (by omega)) (h2 k hk), ⟨rg_c (lod_lo (by omega)) h3, rg_c (lod_lo (by omega)) h4, rg_c (lod_lo (by omega)) h5, rg_c (lod_lo (by omega)) h6, rg_c (lod_lo (by omega)) h7, rg_c (lod_lo (by omega)) h8, rg_c (lod_lo (by omega)) h9⟩, fun b hb => ?_, fun a' ha' => ?_, rg_c (lod_lo (by omega)) h12, rg_c (lod_lo (by omega)) h13, rg_c (lod_lo (by omega)) h14, by rw [nn_c (lod_lo (by omega))]; exact h15⟩
  · by_cases hk : b = nn f 51
    · subst hk
      have g0 : fLod f a (57 + 11 * nn f 51) = nI (nn f (57 + 11 * nn f 51) - 1) := by
        rw [← e]
        unfold fLod
        rw [pk_un (by omega), pk_un (by omega), pk_un (by omega)]
        unfold fL1
        rw [pk_un (by omega), shW_o (by omega), pk_us, e, hq.1.1, pk_sub hc1]
      refine ⟨rg_v g0 (by omega) (by omega), fun j hj => ?_⟩
      rw [nn_v g0 (by omega)] at hj
      have g1 : fLod f a (57 + 11 * nn f 51 + 1 + j) = f (57 + 11 * nn f 51 + 1 + (j + 1)) := by
        rw [← e]
        unfold fLod
        rw [pk_un (by omega), pk_un (by omega), pk_un (by omega)]
        unfold fL1
        rw [pk_un (by omega)]
        unfold shW
        rw [if_pos (by omega), pk_un (by omega)]
        congr 1
      have r := hq.2 (j + 1) (by omega)
      exact rg_v (g1.trans r.1) r.2 (by omega)
    · have r := h10 b hb
      have rb := r.1.2
      have g0 := f3 (57 + 11 * b) (by omega) (by omega) (by omega) (by omega)
      refine ⟨rg_c g0 r.1, fun j hj => ?_⟩
      rw [nn_c g0] at hj
      exact rg_c (f3 _ (by omega) (by omega) (by omega) (by omega)) (r.2 j hj)
  · by_cases hk : a' = a
    · subst hk
      refine ⟨rg_v f1 (by omega) (by omega), fun j hj => ?_⟩
      rw [nn_v f1 (by omega)] at hj
      by_cases hj2 : j = nn f (79 + 9 * a')
      · have g1 : fLod f a' (79 + 9 * a' + 1 + 2 * j + 0) = f (fAt f + 1) := by
          unfold fLod
          rw [pk_un (by omega), pk_un (by omega), hj2]
          exact pk_us
        have g2 : fLod f a' (79 + 9 * a' + 1 + 2 * j + 1) = f 51 := by
          unfold fLod
          rw [pk_un (by omega), show 79 + 9 * a' + 1 + 2 * j + 1 = 79 + (9 * a') + 2 + (2 * nn f (79 + (9 * a'))) by omega, pk_us]
        have r := hq.2 0 hc1
        exact ⟨rg_v (g1.trans r.1) r.2 (by omega), rg_v (g2.trans h7.1) h7.2 (by omega)⟩
      · have r := hn.2 j (by omega)
        exact ⟨rg_c (f3 _ (by omega) (by omega) (by omega) (by omega)) r.1, rg_c (f3 _ (by omega) (by omega) (by omega) (by omega)) r.2⟩
    · have r := h11 a' ha'
      have rb := r.1.2
      have g0 := f3 (79 + 9 * a') (by omega) (by omega) (by omega) (by omega)
      refine ⟨rg_c g0 r.1, fun j hj => ?_⟩
      rw [nn_c g0] at hj
      exact ⟨rg_c (f3 _ (by omega) (by omega) (by omega) (by omega)) (r.2 j hj).1, rg_c (f3 _ (by omega) (by omega) (by omega) (by omega)) (r.2 j hj).2⟩
theorem b2_b (P : Prop) [Decidable P] : ∃ x, x ≤ 1 ∧ b2 P = nI x := by
  by_cases h : P
  · exact ⟨1, by omega, b2_t h⟩
  · exact ⟨0, by omega, b2_f h⟩
theorem unC_b (f : Nat → Int32) : ∃ s, s ≤ 8 ∧ unC f = nI s := by
  obtain ⟨s, h1, h2⟩ := sumI_b (g := fun k => b2 (unF f k = true)) (m := 1) (n := 8) (fun j _ => b2_b _)
  exact ⟨s, by omega, h2⟩
theorem unT_b (f : Nat → Int32) : ∃ s, s ≤ 8 ∧ sumI (unT f) 8 = nI s := by
  obtain ⟨s, h1, h2⟩ := sumI_b (g := unT f) (m := 1) (n := 8) (fun j _ => b2_b _)
  exact ⟨s, by omega, h2⟩
theorem unl_o {f : Nat → Int32} {j : Nat} (h : j < 79) (h2 : j ≠ 54) (h3 : j ≠ 55) : fUnl f j = f j := by
  unfold fUnl zrW
  rw [if_neg (by omega), pk_un h2, pk_un h3]
theorem unl_z {f : Nat → Int32} {j : Nat} (h : 79 ≤ j) (h2 : j < 97) : fUnl f j = nI 0 := by
  unfold fUnl zrW
  rw [if_pos (by omega)]
theorem okf_unl {B : Nat} {f : Nat → Int32} (hB : B < 900000000) (h : Okf B f) : Okf (B + 8) (fUnl f) := by
  obtain ⟨s, s1, s2⟩ := unC_b f
  obtain ⟨u, u1, u2⟩ := unT_b f
  obtain ⟨h1, h2, ⟨h3, h4, h5, h6, h7, h8, h9⟩, h10, h11, h12, h13, h14, h15⟩ := h
  have h8b := h8.2
  have h9b := h9.2
  have g : ∀ j, j < 79 → j ≠ 54 → j ≠ 55 → fUnl f j = f j := fun j a b c => unl_o a b c
  refine ⟨fun k hk => rg_c (unl_o (by omega) (by omega) (by omega)) (h1 k hk), fun k hk => rg_c (unl_o (by omega) (by omega) (by omega)) (h2 k hk), ⟨rg_c (unl_o (by omega) (by omega) (by omega)) h3, rg_c (unl_o (by omega) (by omega) (by omega)) h4, rg_c (unl_o (by omega) (by omega) (by omega)) h5, rg_le (rg_c (unl_o (by omega) (by omega) (by omega)) h6) (by omega), rg_c (unl_o (by omega) (by omega) (by omega)) h7, ?_, ?_⟩, fun b hb => ?_, fun a ha => ?_, rg_c (unl_o (by omega) (by omega) (by omega)) h12, rg_c (unl_o (by omega) (by omega) (by omega)) h13, rg_c (unl_o (by omega) (by omega) (by omega)) h14, by rw [nn_c (unl_o (by omega) (by omega) (by omega))]; exact h15⟩
  · refine rg_v (x := nn f 54 + s) ?_ (by omega) (by omega)
    unfold fUnl zrW
    rw [if_neg (by omega), pk_us, h8.1, s2, nI_add]
  · refine rg_v (x := nn f 55 + u) ?_ (by omega) (by omega)
    unfold fUnl zrW
    rw [if_neg (by omega), pk_un (by omega), pk_us, h9.1, u2, nI_add]
  · have r := h10 b hb
    have rb := r.1.2
    refine ⟨rg_c (unl_o (by omega) (by omega) (by omega)) r.1, fun j hj => ?_⟩
    rw [nn_c (unl_o (by omega) (by omega) (by omega))] at hj
    exact rg_c (unl_o (by omega) (by omega) (by omega)) (r.2 j hj)
  · have g0 : fUnl f (79 + 9 * a) = nI 0 := unl_z (by omega) (by omega)
    refine ⟨rg_v g0 (by omega) (by omega), fun j hj => ?_⟩
    rw [nn_v g0 (by omega)] at hj
    omega
theorem okf_arr {B b y : Nat} {f : Nat → Int32} (h : Okf B f) (hb : b < 2) (hy : y ≤ 20) (hq : nn f (57 + 11 * b) < 10) : Okf B (fArr f b (nI y)) := by
  obtain ⟨h1, h2, ⟨h3, h4, h5, h6, h7, h8, h9⟩, h10, h11, h12, h13, h14, h15⟩ := h
  have o : ∀ j, j ≠ 53 → j ≠ 57 + 11 * b → j ≠ 57 + 11 * b + 1 + nn f (57 + 11 * b) → fArr f b (nI y) j = f j := by
    intro j a1 a2 a3
    unfold fArr
    rw [pk_un a1, pk_un a2, pk_un a3]
  refine ⟨fun k hk => rg_c (o _ (by omega) (by omega) (by omega)) (h1 k hk), fun k hk => rg_c (o _ (by omega) (by omega) (by omega)) (h2 k hk), ⟨rg_c (o _ (by omega) (by omega) (by omega)) h3, rg_c (o _ (by omega) (by omega) (by omega)) h4, rg_c (o _ (by omega) (by omega) (by omega)) h5, rg_c (o _ (by omega) (by omega) (by omega)) h6, rg_c (o _ (by omega) (by omega) (by omega)) h7, rg_c (o _ (by omega) (by omega) (by omega)) h8, rg_c (o _ (by omega) (by omega) (by omega)) h9⟩, fun b' hb' => ?_, fun a ha => ?_, rg_c (o _ (by omega) (by omega) (by omega)) h12, rg_c (o _ (by omega) (by omega) (by omega)) h13, rg_c (o _ (by omega) (by omega) (by omega)) h14, by rw [nn_c (o _ (by omega) (by omega) (by omega))]; exact h15⟩
  · have r := h10 b' hb'
    have rb := r.1.2
    by_cases hk : b' = b
    · subst hk
      have g0 : fArr f b' (nI y) (57 + 11 * b') = nI (nn f (57 + 11 * b') + 1) := by
        unfold fArr
        rw [pk_un (by omega), pk_us, r.1.1, nI_add]
      refine ⟨rg_v g0 (by omega) (by omega), fun j hj => ?_⟩
      rw [nn_v g0 (by omega)] at hj
      by_cases hj2 : j = nn f (57 + 11 * b')
      · refine rg_v (x := y) ?_ hy (by omega)
        unfold fArr
        rw [pk_un (by omega), pk_un (by omega), hj2]
        exact pk_us
      · exact rg_c (o _ (by omega) (by omega) (by omega)) (r.2 j (by omega))
    · have g0 := o (57 + 11 * b') (by omega) (by omega) (by omega)
      refine ⟨rg_c g0 r.1, fun j hj => ?_⟩
      rw [nn_c g0] at hj
      exact rg_c (o _ (by omega) (by omega) (by omega)) (r.2 j hj)
  · have r := h11 a ha
    have rb := r.1.2
    have g0 := o (79 + 9 * a) (by omega) (by omega) (by omega)
    refine ⟨rg_c g0 r.1, fun j hj => ?_⟩
    rw [nn_c g0] at hj
    exact ⟨rg_c (o _ (by omega) (by omega) (by omega)) (r.2 j hj).1, rg_c (o _ (by omega) (by omega) (by omega)) (r.2 j hj).2⟩
theorem okf_pas {B h : Nat} {f : Nat → Int32} (hB : B < 900000000) (hh : h < 1000) (ho : Okf B f) : Okf (B + h) (fPas f (nI h)) := by
  obtain ⟨h1, h2, ⟨h3, h4, h5, h6, h7, h8, h9⟩, h10, h11, h12, h13, h14, h15⟩ := ho
  have o : ∀ j, j ≠ 50 → j ≠ 56 → fPas f (nI h) j = f j := fun j a b => pas_o a b
  have h6b := h6.2
  refine ⟨fun k hk => rg_c (o _ (by omega) (by omega)) (h1 k hk), fun k hk => rg_c (o _ (by omega) (by omega)) (h2 k hk), ⟨rg_c (o _ (by omega) (by omega)) h3, rg_c (o _ (by omega) (by omega)) h4, rg_c (o _ (by omega) (by omega)) h5, ?_, rg_c (o _ (by omega) (by omega)) h7, rg_le (rg_c (o _ (by omega) (by omega)) h8) (by omega), rg_le (rg_c (o _ (by omega) (by omega)) h9) (by omega)⟩, fun b hb => ?_, fun a ha => ?_, rg_c (o _ (by omega) (by omega)) h12, rg_c (o _ (by omega) (by omega)) h13, rg_c (o _ (by omega) (by omega)) h14, by rw [nn_c (o _ (by omega) (by omega))]; exact h15⟩
  · refine rg_v (x := nn f 50 + h) ?_ (by omega) (by omega)
    rw [pas_50, h6.1, nI_add]
  · have r := h10 b hb
    have g0 := o (57 + 11 * b) (by omega) (by omega)
    refine ⟨rg_c g0 r.1, fun j hj => ?_⟩
    rw [nn_c g0] at hj
    exact rg_c (o _ (by omega) (by omega)) (r.2 j hj)
  · have r := h11 a ha
    have g0 := o (79 + 9 * a) (by omega) (by omega)
    refine ⟨rg_c g0 r.1, fun j hj => ?_⟩
    rw [nn_c g0] at hj
    exact ⟨rg_c (o _ (by omega) (by omega)) (r.2 j hj).1, rg_c (o _ (by omega) (by omega)) (r.2 j hj).2⟩
/-- an order: its letter, its numbers -/
def Odr (L x y : Nat) : Prop := (L = 97 ∧ x < 2 ∧ 1 ≤ y ∧ y ≤ 20) ∨ (L = 108 ∧ x < 2) ∨ L = 117 ∨ L = 120 ∨ (L = 119 ∧ 1 ≤ x ∧ x ≤ 24) ∨ (L = 100 ∧ 1 ≤ x ∧ x ≤ 5)
def cnD (f : Nat → Int32) (L x : Nat) : Bool := if L = 97 then decide (nn f (57 + (11 * x)) < 10) else if L = 108 then fCan f x else if L = 120 then decide (fRsn f = 0) else if L = 100 then decide (x ≤ nn f 49) else true
def doD (f : Nat → Int32) (L x y : Nat) : Nat → Int32 := if L = 97 then fArr f x (nI y) else if L = 108 then fLod f x else if L = 117 then fUnl f else if L = 120 then fCrs f else if L = 100 then fDrw f x else fPas f (nI x)
def exD (f : Nat → Int32) (L x y : Nat) : Nat → Int32 := if cnD f L x = true then doD f L x y else f
theorem okf_do {B L x y : Nat} {f : Nat → Int32} (hB : B < 900000000) (ho : Okf B f) (hd : Odr L x y) (hc : cnD f L x = true) : Okf (B + 100) (doD f L x y) := by
  rcases hd with ⟨rfl, h1, h2, h3⟩ | ⟨rfl, h1⟩ | rfl | rfl | ⟨rfl, h1, h2⟩ | ⟨rfl, h1, h2⟩
  · have hc' : nn f (57 + 11 * x) < 10 := by simpa [cnD] using hc
    exact okf_mono (by omega) (okf_arr ho h1 h3 hc')
  · have hc' : fCan f x = true := by simpa [cnD] using hc
    exact okf_mono (by omega) (okf_lod ho h1 hc')
  · exact okf_mono (by omega) (okf_unl hB ho)
  · exact okf_mono (by omega) (okf_crs hB ho)
  · exact okf_mono (by omega) (okf_pas hB (by omega) ho)
  · have hc' : x ≤ nn f 49 := by simpa [cnD] using hc
    exact okf_mono (by omega) (okf_drw hB h2 hc' ho)
def oX (t : Nat → Nat) (n sp : Nat) : Nat := if lC t n sp = 97 then (aO1 t n sp).getD 0 else if lC t n sp = 108 then (aO1 t n sp).getD 0 else if lC t n sp = 119 then (nb t n (sp + 1) 24).getD 0 else if lC t n sp = 100 then (nb t n (sp + 1) 5).getD 0 else 0
def oY (t : Nat → Nat) (n sp : Nat) : Nat := if lC t n sp = 97 then (aO3 t n sp).getD 0 else 0
theorem tk_rg {t : Nat → Nat} {n sp lo hi v : Nat} (h : tk t n sp lo hi = some v) : v ≤ hi - lo := by
  unfold tk tkP at h
  split at h
  · injection h with e; omega
  · cases h
theorem nb_rg {t : Nat → Nat} {n sp M v : Nat} (hM : M = 5 ∨ M = 20 ∨ M = 24) (h : nb t n sp M = some v) : 1 ≤ v ∧ v ≤ M := by
  unfold nb nbP tkP hiM at h
  rcases hM with rfl | rfl | rfl
  all_goals
    (repeat' split at h)
    all_goals first
      | (injection h with e; omega)
      | cases h
theorem od_ok {t : Nat → Nat} {n sp : Nat} {o1 o2 : Int32} (h : okF t n sp = true) : oneF t n sp o1 = nI (oX t n sp) ∧ twoF t n sp o2 = nI (oY t n sp) ∧ Odr (lC t n sp) (oX t n sp) (oY t n sp) := by
  rcases lC_cases (t := t) (n := n) (sp := sp) with c | c | c | c | c | c | c
  · obtain ⟨e1, -, -, e4, e5⟩ := oF_97 (bd := false) (o1 := o1) (o2 := o2) c
    rw [e1] at h
    simp only [aOk, Bool.and_eq_true, Option.isSome_iff_exists] at h
    obtain ⟨⟨v1, h1⟩, ⟨v2, h2⟩, ⟨v3, h3⟩⟩ := h
    have r1 := tk_rg h1
    have r3 := nb_rg (Or.inr (Or.inl rfl)) h3
    have ex : oX t n sp = v1 := by unfold oX; rw [if_pos c, h1]; rfl
    have ey : oY t n sp = v3 := by unfold oY; rw [if_pos c, h3]; rfl
    rw [e4, e5, ex, ey, c]
    unfold aW2
    rw [h1, h2, h3]
    exact ⟨rfl, rfl, Or.inl ⟨rfl, by omega, by omega, by omega⟩⟩
  · obtain ⟨e1, -, -, e4, e5⟩ := oF_108 (bd := false) (o1 := o1) (o2 := o2) c
    rw [e1] at h
    simp only [Option.isSome_iff_exists] at h
    obtain ⟨v1, h1⟩ := h
    have r1 := tk_rg h1
    have ex : oX t n sp = v1 := by unfold oX; rw [if_neg (by omega), if_pos c, h1]; rfl
    have ey : oY t n sp = 0 := by unfold oY; rw [if_neg (by omega)]
    rw [e4, e5, ex, ey, c, h1]
    exact ⟨rfl, rfl, Or.inr (Or.inl ⟨rfl, by omega⟩)⟩
  · obtain ⟨e1, -, -, e4, e5⟩ := oF_117 (bd := false) (o1 := o1) (o2 := o2) c
    have ex : oX t n sp = 0 := by unfold oX; rw [if_neg (by omega), if_neg (by omega), if_neg (by omega), if_neg (by omega)]
    have ey : oY t n sp = 0 := by unfold oY; rw [if_neg (by omega)]
    rw [e4, e5, ex, ey, c]
    exact ⟨rfl, rfl, Or.inr (Or.inr (Or.inl rfl))⟩
  · obtain ⟨e1, -, -, e4, e5⟩ := oF_120 (bd := false) (o1 := o1) (o2 := o2) c
    have ex : oX t n sp = 0 := by unfold oX; rw [if_neg (by omega), if_neg (by omega), if_neg (by omega), if_neg (by omega)]
    have ey : oY t n sp = 0 := by unfold oY; rw [if_neg (by omega)]
    rw [e4, e5, ex, ey, c]
    exact ⟨rfl, rfl, Or.inr (Or.inr (Or.inr (Or.inl rfl)))⟩
  · obtain ⟨e1, -, -, e4, e5⟩ := oF_119 (bd := false) (o1 := o1) (o2 := o2) c
    rw [e1] at h
    simp only [Option.isSome_iff_exists] at h
    obtain ⟨v1, h1⟩ := h
    have r1 := nb_rg (Or.inr (Or.inr rfl)) h1
    have ex : oX t n sp = v1 := by unfold oX; rw [if_neg (by omega), if_neg (by omega), if_pos c, h1]; rfl
    have ey : oY t n sp = 0 := by unfold oY; rw [if_neg (by omega)]
    rw [e4, e5, ex, ey, c, h1]
    exact ⟨rfl, rfl, Or.inr (Or.inr (Or.inr (Or.inr (Or.inl ⟨rfl, r1.1, r1.2⟩))))⟩
  · obtain ⟨e1, -, -, e4, e5⟩ := oF_100 (bd := false) (o1 := o1) (o2 := o2) c
    rw [e1] at h
    simp only [Option.isSome_iff_exists] at h
    obtain ⟨v1, h1⟩ := h
    have r1 := nb_rg (Or.inl rfl) h1
    have ex : oX t n sp = v1 := by unfold oX; rw [if_neg (by omega), if_neg (by omega), if_neg (by omega), if_pos c, h1]; rfl
    have ey : oY t n sp = 0 := by unfold oY; rw [if_neg (by omega)]
    rw [e4, e5, ex, ey, c, h1]
    exact ⟨rfl, rfl, Or.inr (Or.inr (Or.inr (Or.inr (Or.inr ⟨rfl, r1.1, r1.2⟩))))⟩
  · rw [(oF_n (bd := false) (o1 := o1) (o2 := o2) c).1] at h
    cases h
/-- the orders of a whole text, done one after the other -/
def xF (t : Nat → Nat) (n : Nat) : Nat → Nat → (Nat → Int32) → (Nat → Int32)
  | 0, _, f => f
  | k + 1, sp, f => if cnD f (lC t n sp) (oX t n sp) = true then (if moF t n sp then xF t n k (nxF t n sp + 1) (doD f (lC t n sp) (oX t n sp) (oY t n sp)) else doD f (lC t n sp) (oX t n sp) (oY t n sp)) else f
def xC (t : Nat → Nat) (n : Nat) : Nat → Nat → (Nat → Int32) → Nat
  | 0, _, _ => 0
  | k + 1, sp, f => if cnD f (lC t n sp) (oX t n sp) = true then (if moF t n sp then xC t n k (nxF t n sp + 1) (doD f (lC t n sp) (oX t n sp) (oY t n sp)) + 1 else 1) else 0
theorem x_n {t : Nat → Nat} {n k sp : Nat} {f : Nat → Int32} (h : ¬ cnD f (lC t n sp) (oX t n sp) = true) : xF t n (k + 1) sp f = f ∧ xC t n (k + 1) sp f = 0 := by
  simp only [xF, xC, if_neg h, and_self]
theorem x_e {t : Nat → Nat} {n k sp : Nat} {f : Nat → Int32} (h : cnD f (lC t n sp) (oX t n sp) = true) (h2 : ¬ moF t n sp) : xF t n (k + 1) sp f = doD f (lC t n sp) (oX t n sp) (oY t n sp) ∧ xC t n (k + 1) sp f = 1 := by
  simp only [xF, xC, if_pos h, if_neg h2, and_self]
theorem x_m {t : Nat → Nat} {n k sp : Nat} {f : Nat → Int32} (h : cnD f (lC t n sp) (oX t n sp) = true) (h2 : moF t n sp) : xF t n (k + 1) sp f = xF t n k (nxF t n sp + 1) (doD f (lC t n sp) (oX t n sp) (oY t n sp)) ∧ xC t n (k + 1) sp f = xC t n k (nxF t n sp + 1) (doD f (lC t n sp) (oX t n sp) (oY t n sp)) + 1 := by
  simp only [xF, xC, if_pos h, if_pos h2, and_self]
theorem od_0 {t : Nat → Nat} {n sp : Nat} : (lC t n sp = 117 → oX t n sp = 0 ∧ oY t n sp = 0) ∧ (lC t n sp = 120 → oX t n sp = 0 ∧ oY t n sp = 0) := by
  constructor <;> intro c <;> unfold oX oY <;> simp [c]
