theorem arr_o {f : Nat → Int32} {b : Nat} {v : Int32} {j : Nat} (h1 : j ≠ 53) (h2 : j ≠ 57 + 11 * b) (h3 : j ≠ 57 + 11 * b + 1 + nn f (57 + 11 * b)) : fArr f b v j = f j := by
  unfold fArr
  rw [pk_un h1, pk_un h2, pk_un h3]
theorem arr_53 {f : Nat → Int32} {b : Nat} {v : Int32} : fArr f b v 53 = f 53 + nI 1 := pk_us
theorem arr_n {f : Nat → Int32} {b : Nat} {v : Int32} (hs : Shp f) (hb : b < 2) : nn (fArr f b v) (57 + 11 * b) = nn f (57 + 11 * b) + 1 := by
  have h := hs.2.1 b hb
  have hq := h.2
  refine nn_v ?_ (by omega)
  unfold fArr
  rw [pk_un (by omega), pk_us, h.1, nI_add]
theorem lw_o {g f : Nat → Int32} (a : Nat) (h : ∀ j, 79 + 9 * a ≤ j → j < 88 + 9 * a → g j = f j) (hs : Shp f) (ha : a < 2) : fLw g a = fLw f a := by
  unfold fLw
  have h1 := hs.1 a ha
  rw [nn_c (h _ (by omega) (by omega))]
  exact sumI_c (fun j hj => h _ (by omega) (by omega))
theorem lod_n {f : Nat → Int32} {a b : Nat} (hs : Shp f) (ha : a < 2) (hb : nn f 51 = b) (h1 : 1 ≤ nn f (57 + 11 * b)) : nn (fLod f a) (57 + 11 * b) = nn f (57 + 11 * b) - 1 := by
  have h := hs.2.1 b (by have := hs.2.2.1.2; omega)
  have e : fAt f = 57 + 11 * b := by show 57 + 11 * nn f 51 = _; rw [hb]
  have hb2 := hs.2.2.1.2
  refine nn_v ?_ (by omega)
  unfold fLod
  rw [pk_un (by omega), pk_un (by omega), pk_un (by omega)]
  unfold fL1
  rw [← e, pk_un (by omega), shW_o (by omega), pk_us, e, h.1, pk_sub h1]
theorem lod_f {f : Nat → Int32} {a j : Nat} (hs : Shp f) (g1 : j < fAt f ∨ fAt f + 10 < j) (g2 : j ≠ 79 + 9 * a) (g3 : j ≠ 79 + 9 * a + 1 + 2 * nn f (79 + 9 * a)) (g4 : j ≠ 79 + 9 * a + 2 + 2 * nn f (79 + 9 * a)) : fLod f a j = f j := by
  unfold fLod
  rw [pk_un g2, pk_un g4, pk_un g3, l1_o g1]
theorem lod_l {f : Nat → Int32} {a : Nat} (hs : Shp f) (ha : a < 2) : nn (fLod f a) (79 + 9 * a) = nn f (79 + 9 * a) + 1 := by
  have h := hs.1 a ha
  have hq := h.2
  refine nn_v ?_ (by omega)
  unfold fLod
  rw [pk_us, h.1, nI_add]
theorem lod_w {f : Nat → Int32} {a : Nat} (hs : Shp f) (ha : a < 2) : fLw (fLod f a) a = fLw f a + f (fAt f + 1) := by
  have e : fAt f = 57 + 11 * nn f 51 := rfl
  have h51 := hs.2.2.1.2
  have hn := (hs.1 a ha).2
  unfold fLw
  rw [lod_l hs ha]
  show sumI _ (nn f (79 + 9 * a)) + fLod f a (79 + 9 * a + 1 + 2 * nn f (79 + 9 * a) + 0) = _
  congr 1
  · exact sumI_c (fun j hj => lod_f hs (by omega) (by omega) (by omega) (by omega))
  · unfold fLod
    rw [pk_un (by omega), pk_un (by omega)]
    exact pk_us
theorem crs_50 {f : Nat → Int32} : fCrs f 50 = f 50 + nI (fHrs f) := by
  unfold fCrs
  rw [pk_un (by omega), pk_un (by omega), pas_50, c1_o (by omega) (by omega) (by omega)]
theorem crs_51 {f : Nat → Int32} : fCrs f 51 = nI 1 - f 51 := by
  unfold fCrs
  rw [pk_un (by omega), pk_us]
theorem crs_52 {f : Nat → Int32} : fCrs f 52 = f 52 + nI 1 := pk_us
theorem crs_56 {f : Nat → Int32} (hs : Shp f) : fCrs f 56 = f 56 + nI (fHrs f) * nI (nn f 57 + nn f 68) := by
  have h0 := (hs.2.1 0 (by omega)).1
  have h1 := (hs.2.1 1 (by omega)).1
  unfold fCrs
  rw [pk_un (by omega), pk_un (by omega)]
  unfold fPas
  rw [pk_us, c1_o (by omega) (by omega) (by omega), c1_o (by omega) (by omega) (by omega), c1_o (by omega) (by omega) (by omega), h0, h1, nI_add]
theorem crs_wire {f : Nat → Int32} {j : Nat} (h : 27 ≤ j) (h2 : j < 50) : fCrs f j = fC1 f j := by
  unfold fCrs
  rw [pk_un (by omega), pk_un (by omega), pas_o (by omega) (by omega)]
theorem drw_50 {f : Nat → Int32} {n : Nat} : fDrw f n 50 = f 50 + nI n := by
  unfold fDrw
  rw [pas_50, pk_un (by omega), pk_un (by omega), pk_un (by omega), drW_o (by omega)]
theorem drw_56 {f : Nat → Int32} {n : Nat} (hs : Shp f) : fDrw f n 56 = f 56 + nI n * nI (nn f 57 + nn f 68) := by
  have h0 := (hs.2.1 0 (by omega)).1
  have h1 := (hs.2.1 1 (by omega)).1
  have e : ∀ j, 51 ≤ j → (upd (upd (upd (drW f n 20) 49 (f 49 - nI n)) 47 (nI 0)) 48 (nI 0)) j = f j := fun j hj => by
    rw [pk_un (by omega), pk_un (by omega), pk_un (by omega), drW_o (by omega)]
  unfold fDrw fPas
  rw [pk_us, e _ (by omega), e _ (by omega), e _ (by omega), h0, h1, nI_add]
theorem pas_56 {f : Nat → Int32} {h : Int32} (hs : Shp f) : fPas f h 56 = f 56 + h * nI (nn f 57 + nn f 68) := by
  have h0 := (hs.2.1 0 (by omega)).1
  have h1 := (hs.2.1 1 (by omega)).1
  unfold fPas
  rw [pk_us, h0, h1, nI_add]
/-! those that drive off -/
theorem sumI_add {g : Nat → Int32} {a b : Nat} : sumI g (a + b) = sumI g a + sumI (fun k => g (a + k)) b := by
  induction b with
  | zero =>
    show _ = _ + nI 0
    rw [nI_0, Int32.add_zero]
    rfl
  | succ b ih =>
    show sumI g (a + b) + g (a + b) = sumI g a + (sumI (fun k => g (a + k)) b + g (a + b))
    rw [ih, Int32.add_assoc]
theorem cnt_in {d : Nat → Int32} {v : Int32} {n : Nat} : ∀ i, sumI (fun k => b2 (k < n ∧ d k = v)) i = nI (cntN d v (min i n)) := by
  intro i
  induction i with
  | zero => rw [Nat.zero_min]; rfl
  | succ i ih =>
    show sumI _ i + b2 (i < n ∧ d i = v) = _
    rw [ih]
    by_cases h : i < n
    · rw [show min (i + 1) n = min i n + 1 by omega]
      show _ = nI (cntN d v (min i n) + (if d (min i n) = v then 1 else 0))
      rw [show min i n = i by omega]
      by_cases h2 : d i = v
      · rw [b2_t ⟨h, h2⟩, if_pos h2, nI_add]
      · rw [b2_f (fun q => h2 q.2), if_neg h2, nI_add]
    · rw [show min (i + 1) n = min i n by omega, b2_f (fun q => h q.1), nI_0, Int32.add_zero]
theorem cnt_out {d : Nat → Int32} {v : Int32} {n : Nat} : ∀ i, sumI (fun k => b2 (k < n ∧ ¬ d k = v)) i = nI (min i n - cntN d v (min i n)) := by
  intro i
  induction i with
  | zero => rw [Nat.zero_min]; rfl
  | succ i ih =>
    show sumI _ i + b2 (i < n ∧ ¬ d i = v) = _
    rw [ih]
    have hl := cntN_le (B := d) (v := v) (k := min i n)
    by_cases h : i < n
    · rw [show min (i + 1) n = min i n + 1 by omega]
      show _ = nI (min i n + 1 - (cntN d v (min i n) + (if d (min i n) = v then 1 else 0)))
      rw [show min i n = i by omega] at hl ⊢
      by_cases h2 : d i = v
      · rw [b2_f (fun q => q.2 h2), if_pos h2, nI_0, Int32.add_zero]
        congr 1
        omega
      · rw [b2_t ⟨h, h2⟩, if_neg h2, nI_add]
        congr 1
        omega
    · rw [show min (i + 1) n = min i n by omega, b2_f (fun q => h q.1), nI_0, Int32.add_zero]
theorem unI_0 {f : Nat → Int32} {k : Nat} (hk : k < 4) : unI f k = decide (k < nn f 79) := by
  unfold unI
  rw [show k % 4 = k by omega, show k / 4 = 0 by omega]
theorem unI_1 {f : Nat → Int32} {k : Nat} (hk : k < 4) : unI f (4 + k) = decide (k < nn f 88) := by
  unfold unI
  rw [show (4 + k) % 4 = k by omega, show (4 + k) / 4 = 1 by omega]
theorem unF_0 {f : Nat → Int32} {k : Nat} (hk : k < 4) : unF f k = (decide (k < nn f 79) && decide (¬ f (81 + 2 * k) = f 51)) := by
  unfold unF
  rw [unI_0 hk, show k % 4 = k by omega, show k / 4 = 0 by omega, show 79 + (9 * 0) + 1 + (2 * k) + 1 = 81 + 2 * k by omega]
theorem unF_1 {f : Nat → Int32} {k : Nat} (hk : k < 4) : unF f (4 + k) = (decide (k < nn f 88) && decide (¬ f (90 + 2 * k) = f 51)) := by
  unfold unF
  rw [unI_1 hk, show (4 + k) % 4 = k by omega, show (4 + k) / 4 = 1 by omega, show 79 + (9 * 1) + 1 + (2 * k) + 1 = 90 + 2 * k by omega]
theorem off_c {f w0 w1 w2 d2 w3 d3 : Nat → Int32} (hs : Shp f) (hc : Cpl f w0 w1 w2 d2 w3 d3) :
    nI (nn f 79 + nn f 88 - (cntN d2 (f 51) (nn f 79) + cntN d3 (f 51) (nn f 88))) = unC f ∧ nI (cntN d2 (f 51) (nn f 79) + cntN d3 (f 51) (nn f 88)) = sumI (unT f) 8 := by
  have n0 : nn f 79 ≤ 4 := (hs.1 0 (by omega)).2
  have n1 : nn f 88 ≤ 4 := (hs.1 1 (by omega)).2
  have l0 := cntN_le (B := d2) (v := f 51) (k := nn f 79)
  have l1 := cntN_le (B := d3) (v := f 51) (k := nn f 88)
  obtain ⟨-, -, c3, c4⟩ := hc
  constructor
  · have e0 : sumI (fun k => b2 (unF f k = true)) 4 = nI (nn f 79 - cntN d2 (f 51) (nn f 79)) := by
      rw [sumI_c (h := fun k => b2 (k < nn f 79 ∧ ¬ d2 k = f 51)) (fun k hk => ?_), cnt_out, show min 4 (nn f 79) = nn f 79 by omega]
      apply b2_c
      rw [unF_0 hk, Bool.and_eq_true, decide_eq_true_eq, decide_eq_true_eq]
      exact ⟨fun q => ⟨q.1, by rw [(c3 k q.1).2]; exact q.2⟩, fun q => ⟨q.1, by rw [← (c3 k q.1).2]; exact q.2⟩⟩
    have e1 : sumI (fun k => b2 (unF f (4 + k) = true)) 4 = nI (nn f 88 - cntN d3 (f 51) (nn f 88)) := by
      rw [sumI_c (h := fun k => b2 (k < nn f 88 ∧ ¬ d3 k = f 51)) (fun k hk => ?_), cnt_out, show min 4 (nn f 88) = nn f 88 by omega]
      apply b2_c
      rw [unF_1 hk, Bool.and_eq_true, decide_eq_true_eq, decide_eq_true_eq]
      exact ⟨fun q => ⟨q.1, by rw [(c4 k q.1).2]; exact q.2⟩, fun q => ⟨q.1, by rw [← (c4 k q.1).2]; exact q.2⟩⟩
    show _ = sumI (fun k => b2 (unF f k = true)) (4 + 4)
    rw [sumI_add, e0, e1, nI_add]
    congr 1
    omega
  · have e0 : sumI (unT f) 4 = nI (cntN d2 (f 51) (nn f 79)) := by
      rw [sumI_c (h := fun k => b2 (k < nn f 79 ∧ d2 k = f 51)) (fun k hk => ?_), cnt_in, show min 4 (nn f 79) = nn f 79 by omega]
      apply b2_c
      rw [unI_0 hk, unF_0 hk, Bool.and_eq_true, decide_eq_true_eq, decide_eq_true_eq]
      exact ⟨fun q => ⟨q.1, by rw [(c3 k q.1).2]; exact Classical.not_not.mp fun z => q.2 ⟨q.1, z⟩⟩, fun q => ⟨q.1, fun z => z.2 (by rw [← (c3 k q.1).2]; exact q.2)⟩⟩
    have e1 : sumI (fun k => unT f (4 + k)) 4 = nI (cntN d3 (f 51) (nn f 88)) := by
      rw [sumI_c (h := fun k => b2 (k < nn f 88 ∧ d3 k = f 51)) (fun k hk => ?_), cnt_in, show min 4 (nn f 88) = nn f 88 by omega]
      apply b2_c
      rw [unI_1 hk, unF_1 hk, Bool.and_eq_true, decide_eq_true_eq, decide_eq_true_eq]
      exact ⟨fun q => ⟨q.1, by rw [(c4 k q.1).2]; exact Classical.not_not.mp fun z => q.2 ⟨q.1, z⟩⟩, fun q => ⟨q.1, fun z => z.2 (by rw [← (c4 k q.1).2]; exact q.2)⟩⟩
    show _ = sumI (unT f) (4 + 4)
    rw [sumI_add, e0, e1, nI_add]
theorem unl_54 {f : Nat → Int32} : fUnl f 54 = f 54 + unC f := by
  unfold fUnl zrW
  rw [if_neg (by omega), pk_us]
theorem unl_55 {f : Nat → Int32} : fUnl f 55 = f 55 + sumI (unT f) 8 := by
  unfold fUnl zrW
  rw [if_neg (by omega), pk_un (by omega), pk_us]
theorem unl_n {f : Nat → Int32} : nn (fUnl f) 79 = 0 ∧ nn (fUnl f) 88 = 0 := ⟨nn_v (unl_z (by omega) (by omega)) (by omega), nn_v (unl_z (by omega) (by omega)) (by omega)⟩
theorem unl_w {f : Nat → Int32} : fLw (fUnl f) 0 = nI 0 ∧ fLw (fUnl f) 1 = nI 0 := by
  unfold fLw
  rw [show nn (fUnl f) (79 + 9 * 0) = 0 from unl_n.1, show nn (fUnl f) (79 + 9 * 1) = 0 from unl_n.2]
  exact ⟨rfl, rfl⟩
/-! the lines' rows still fit -/
theorem cpl_arr0 {f w0 w1 w2 d2 w3 d3 : Nat → Int32} {v : Int32} (hs : Shp f) (hq : nn f 57 < 10) (h : Cpl f w0 w1 w2 d2 w3 d3) : Cpl (fArr f 0 v) (upd w0 (nn f 57) v) w1 w2 d2 w3 d3 := by
  have q0 : nn f 57 ≤ 10 := (hs.2.1 0 (by omega)).2
  have q1 : nn f 68 ≤ 10 := (hs.2.1 1 (by omega)).2
  have n0 : nn f 79 ≤ 4 := (hs.1 0 (by omega)).2
  have n1 : nn f 88 ≤ 4 := (hs.1 1 (by omega)).2
  have e0 : nn (fArr f 0 v) 57 = nn f 57 + 1 := arr_n hs (by omega)
  have o : ∀ j, 68 ≤ j → j < 97 → fArr f 0 v j = f j := fun j a b => arr_o (by omega) (by omega) (by show j ≠ 57 + 11 * 0 + 1 + nn f 57; omega)
  obtain ⟨c1, c2, c3, c4⟩ := h
  refine ⟨fun j hj => ?_, fun j hj => ?_, fun j hj => ?_, fun j hj => ?_⟩
  · rw [e0] at hj
    by_cases q : j = nn f 57
    · subst q
      rw [pk_us]
      unfold fArr
      rw [pk_un (by omega), pk_un (by omega), show 58 + nn f 57 = 57 + (11 * 0) + 1 + nn f (57 + (11 * 0)) by show _ = 58 + nn f 57; rfl]
      exact pk_us.symm
    · rw [pk_un q, arr_o (by omega) (by omega) (by show 58 + j ≠ 58 + nn f 57; omega)]
      exact c1 j (by omega)
  · rw [nn_c (o 68 (by omega) (by omega))] at hj
    rw [o _ (by omega) (by omega)]; exact c2 j hj
  · rw [nn_c (o 79 (by omega) (by omega))] at hj
    rw [o _ (by omega) (by omega), o _ (by omega) (by omega)]; exact c3 j hj
  · rw [nn_c (o 88 (by omega) (by omega))] at hj
    rw [o _ (by omega) (by omega), o _ (by omega) (by omega)]; exact c4 j hj
theorem cpl_arr1 {f w0 w1 w2 d2 w3 d3 : Nat → Int32} {v : Int32} (hs : Shp f) (hq : nn f 68 < 10) (h : Cpl f w0 w1 w2 d2 w3 d3) : Cpl (fArr f 1 v) w0 (upd w1 (nn f 68) v) w2 d2 w3 d3 := by
  have q0 : nn f 57 ≤ 10 := (hs.2.1 0 (by omega)).2
  have q1 : nn f 68 ≤ 10 := (hs.2.1 1 (by omega)).2
  have n0 : nn f 79 ≤ 4 := (hs.1 0 (by omega)).2
  have n1 : nn f 88 ≤ 4 := (hs.1 1 (by omega)).2
  have e0 : nn (fArr f 1 v) 68 = nn f 68 + 1 := arr_n hs (by omega)
  have o : ∀ j, 57 ≤ j → j < 97 → j ≠ 68 → j ≠ 69 + nn f 68 → fArr f 1 v j = f j := fun j a b c d => arr_o (by omega) (by omega) (by show j ≠ 57 + 11 * 1 + 1 + nn f 68; omega)
  obtain ⟨c1, c2, c3, c4⟩ := h
  refine ⟨fun j hj => ?_, fun j hj => ?_, fun j hj => ?_, fun j hj => ?_⟩
  · rw [nn_c (o 57 (by omega) (by omega) (by omega) (by omega))] at hj
    rw [o _ (by omega) (by omega) (by omega) (by omega)]; exact c1 j hj
  · rw [e0] at hj
    by_cases q : j = nn f 68
    · subst q
      rw [pk_us]
      unfold fArr
      rw [pk_un (by omega), pk_un (by omega), show 69 + nn f 68 = 57 + (11 * 1) + 1 + nn f (57 + (11 * 1)) by show _ = 69 + nn f 68; rfl]
      exact pk_us.symm
    · rw [pk_un q, o _ (by omega) (by omega) (by omega) (by omega)]
      exact c2 j (by omega)
  · rw [nn_c (o 79 (by omega) (by omega) (by omega) (by omega))] at hj
    rw [o _ (by omega) (by omega) (by omega) (by omega), o _ (by omega) (by omega) (by omega) (by omega)]; exact c3 j hj
  · rw [nn_c (o 88 (by omega) (by omega) (by omega) (by omega))] at hj
    rw [o _ (by omega) (by omega) (by omega) (by omega), o _ (by omega) (by omega) (by omega) (by omega)]; exact c4 j hj
theorem cpl_unl {f w0 w1 w2 d2 w3 d3 : Nat → Int32} (hs : Shp f) (h : Cpl f w0 w1 w2 d2 w3 d3) : Cpl (fUnl f) w0 w1 w2 d2 w3 d3 := by
  have q0 : nn f 57 ≤ 10 := (hs.2.1 0 (by omega)).2
  have q1 : nn f 68 ≤ 10 := (hs.2.1 1 (by omega)).2
  obtain ⟨c1, c2, c3, c4⟩ := h
  refine ⟨fun j hj => ?_, fun j hj => ?_, fun j hj => ?_, fun j hj => ?_⟩
  · rw [nn_c (unl_o (by omega) (by omega) (by omega))] at hj
    rw [unl_o (by omega) (by omega) (by omega)]; exact c1 j hj
  · rw [nn_c (unl_o (by omega) (by omega) (by omega))] at hj
    rw [unl_o (by omega) (by omega) (by omega)]; exact c2 j hj
  · rw [unl_n.1] at hj; omega
  · rw [unl_n.2] at hj; omega
