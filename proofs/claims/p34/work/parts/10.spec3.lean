/-! ranges of the row's numbers, and what the looks answer -/
def rg (f : Nat → Int32) (j m : Nat) : Prop := f j = nI (nn f j) ∧ nn f j ≤ m
def Okf (B : Nat) (f : Nat → Int32) : Prop :=
  (∀ k, k < 24 → rg f (3 + k) 40) ∧ (∀ k, k < 20 → rg f (27 + k) 1000) ∧
  (rg f 47 30 ∧ rg f 48 499 ∧ rg f 49 40 ∧ rg f 50 B ∧ rg f 51 1 ∧ rg f 54 B ∧ rg f 55 B) ∧
  (∀ b, b < 2 → rg f (57 + 11 * b) 10 ∧ ∀ j, j < nn f (57 + 11 * b) → rg f (57 + 11 * b + 1 + j) 20) ∧
  (∀ a, a < 2 → rg f (79 + 9 * a) 4 ∧ ∀ j, j < nn f (79 + 9 * a) → rg f (79 + 9 * a + 1 + 2 * j + 0) 20 ∧ rg f (79 + 9 * a + 1 + 2 * j + 1) 1) ∧
  (rg f 0 999 ∧ rg f 1 80 ∧ rg f 2 50 ∧ 1 ≤ nn f 2)
theorem rg_c {g f : Nat → Int32} {j m : Nat} (h : g j = f j) (r : rg f j m) : rg g j m := by
  unfold rg at *
  rw [nn_c h, h]
  exact r
theorem rg_u {f : Nat → Int32} {k j m : Nat} {v : Int32} (h : j ≠ k) (r : rg f j m) : rg (upd f k v) j m := rg_c (pk_un h) r
theorem nn_v {f : Nat → Int32} {j x : Nat} (h : f j = nI x) (hx : x < 2147483648) : nn f j = x := by
  unfold nn
  rw [h]
  exact nI_clamp hx
theorem rg_v {f : Nat → Int32} {j x m : Nat} (h : f j = nI x) (hx : x ≤ m) (hm : m < 2147483648) : rg f j m := by
  unfold rg
  rw [nn_v h (by omega)]
  exact ⟨h, hx⟩
theorem rg_le {f : Nat → Int32} {j m m' : Nat} (r : rg f j m) (h : m ≤ m') : rg f j m' := ⟨r.1, Nat.le_trans r.2 h⟩
theorem okf_shp {B : Nat} {f : Nat → Int32} (hB : B < 1000000000) (h : Okf B f) : Shp f := by
  obtain ⟨h1, h2, ⟨h3, h4, h5, h6, h7, h8, h9⟩, h10, h11, h12, h13, h14, h15⟩ := h
  exact ⟨fun a ha => (h11 a ha).1, fun b hb => (h10 b hb).1, ⟨h7.1, by have := h7.2; omega⟩, ⟨h6.1, by have := h6.2; omega⟩, h14.1, h15, h14.2⟩
theorem sumI_b {g : Nat → Int32} {m n : Nat} (h : ∀ j, j < n → ∃ x, x ≤ m ∧ g j = nI x) : ∃ s, s ≤ n * m ∧ sumI g n = nI s := by
  induction n with
  | zero => exact ⟨0, by omega, rfl⟩
  | succ n ih =>
    obtain ⟨s, h1, h2⟩ := ih (fun j hj => h j (by omega))
    obtain ⟨x, h3, h4⟩ := h n (by omega)
    refine ⟨s + x, by rw [Nat.succ_mul]; omega, ?_⟩
    show sumI g n + g n = _
    rw [h2, h4, nI_add]
theorem lw_b {B : Nat} {f : Nat → Int32} (h : Okf B f) {a : Nat} (ha : a < 2) : ∃ w, w ≤ 80 ∧ fLw f a = nI w := by
  obtain ⟨-, -, -, -, h11, -⟩ := h
  obtain ⟨h1, h2⟩ := h11 a ha
  obtain ⟨s, h3, h4⟩ := sumI_b (g := fun j => f (79 + 9 * a + 1 + 2 * j + 0)) (m := 20) (n := nn f (79 + 9 * a)) (fun j hj => ⟨_, (h2 j hj).1.2, (h2 j hj).1.1⟩)
  have := h1.2
  exact ⟨s, by omega, h4⟩
theorem sub_ge {x y : Nat} (hx : x < 1000000000) (hy : y < 1000000000) : 0 ≤ nI x - nI y ↔ y ≤ x := by
  rw [Int32.le_iff_toInt_le, pk_sub_toInt (by omega) (by omega), Int32.toInt_zero]
  omega
theorem sub_neg {x y : Nat} : -(nI x - nI y) = nI y - nI x := Int32.neg_sub
theorem abs_b {x y : Nat} (hx : x ≤ 1000) (hy : y ≤ 1000) : ∃ d, d ≤ max x y ∧ absI (nI x - nI y) = nI d := by
  unfold absI
  by_cases h : y ≤ x
  · exact ⟨x - y, by omega, by rw [if_pos ((sub_ge (by omega) (by omega)).mpr h), pk_sub h]⟩
  · exact ⟨y - x, by omega, by rw [if_neg (fun q => h ((sub_ge (by omega) (by omega)).mp q)), sub_neg, pk_sub (by omega)]⟩
theorem lst_b {B : Nat} {f : Nat → Int32} (h : Okf B f) : ∃ d, d ≤ 80 ∧ fLst f = nI d := by
  obtain ⟨x, h1, h2⟩ := lw_b h (a := 0) (by omega)
  obtain ⟨y, h3, h4⟩ := lw_b h (a := 1) (by omega)
  obtain ⟨d, h5, h6⟩ := abs_b (x := x) (y := y) (by omega) (by omega)
  exact ⟨d, by omega, by unfold fLst; rw [h2, h4, h6]⟩
theorem far_b {k : Nat} : fFar k ≤ 20 ∧ (k < 20 → fFar k ≤ 10) := by
  unfold fFar
  split <;> omega
theorem tby_b {f : Nat → Int32} {k cu li wt sl : Nat} (hk : k < 20) (h1 : cu ≤ 40) (h2 : li ≤ 1000) (h3 : wt ≤ 1000) (h4 : f 47 = nI sl) (h5 : sl ≤ 30) : ∃ t, t ≤ cu * fFar k / 10 * (20 + wt) / 10 + 3 * li ∧ fTby f k (nI cu) (nI li) (nI wt) = nI t := by
  have hf := (far_b (k := k)).2 hk
  have e1 : cu * fFar k ≤ 400 := Nat.le_trans (Nat.mul_le_mul h1 hf) (by omega)
  have e2 : cu * fFar k / 10 * (20 + wt) ≤ 40 * 1020 := Nat.mul_le_mul (by omega) (by omega)
  have e : fTb0 f k (nI cu) (nI li) (nI wt) = nI (cu * fFar k / 10 * (20 + wt) / 10 + 3 * li) - nI (4 * sl) := by
    unfold fTb0
    rw [h4, pk_mul, pk_div (by omega) (by omega) (by omega), nI_add, pk_mul, pk_div (by omega) (by omega) (by omega), pk_mul, pk_mul, nI_add]
  unfold fTby
  rw [e]
  by_cases h : 4 * sl ≤ cu * fFar k / 10 * (20 + wt) / 10 + 3 * li
  · exact ⟨cu * fFar k / 10 * (20 + wt) / 10 + 3 * li - 4 * sl, by omega, by rw [if_pos ((sub_ge (by omega) (by omega)).mpr h), pk_sub h]⟩
  · exact ⟨0, by omega, by rw [if_neg (fun q => h ((sub_ge (by omega) (by omega)).mp q))]⟩
theorem ten_b {B : Nat} {f : Nat → Int32} (h : Okf B f) {k : Nat} (hk : k < 20) : ∃ t, t ≤ 960 ∧ fTen f k = nI t := by
  obtain ⟨x, h1, h2⟩ := lw_b h (a := 0) (by omega)
  obtain ⟨y, h3, h4⟩ := lw_b h (a := 1) (by omega)
  obtain ⟨d, h5, h6⟩ := lst_b h
  obtain ⟨c1, -, ⟨c3, -⟩, -⟩ := h
  have hc := c1 (nn f 50 % 24) (by omega)
  obtain ⟨t, t1, t2⟩ := tby_b (k := k) (cu := nn f (3 + nn f 50 % 24)) (li := d) (wt := x + y) hk hc.2 (by omega) (by omega) c3.1 c3.2
  refine ⟨t, ?_, by unfold fTen; rw [h2, h4, h6, nI_add, hc.1]; exact t2⟩
  have hf := (far_b (k := k)).2 hk
  have e1 : nn f (3 + nn f 50 % 24) * fFar k ≤ 400 := Nat.le_trans (Nat.mul_le_mul hc.2 hf) (by omega)
  have e2 : nn f (3 + nn f 50 % 24) * fFar k / 10 * (20 + (x + y)) ≤ 40 * 180 := Nat.mul_le_mul (by omega) (by omega)
  omega
theorem okf_cro {B : Nat} {f : Nat → Int32} (h : Okf B f) : Cro f ∧ fX f ≤ 19699 := by
  obtain ⟨s, h1, h2⟩ := sumI_b (g := fTen f) (m := 960) (n := 20) (fun j hj => ten_b h hj)
  obtain ⟨-, -, ⟨c3, c4, -⟩, -⟩ := h
  have e : f 48 + sumI (fTen f) 20 = nI (nn f 48 + s) := by rw [c4.1, h2, nI_add]
  have c4b := c4.2
  have e2 : fX f = nn f 48 + s := by unfold fX; rw [e]; exact nI_clamp (by omega)
  exact ⟨⟨by rw [e2]; exact e, by omega, c3.1, c3.2⟩, by omega⟩
theorem sl_b {B : Nat} {f : Nat → Int32} (h : Okf B f) : fSl f ≤ 30 ∧ 1 ≤ fHrs f ∧ fHrs f ≤ 4 := by
  unfold fHrs fSl
  omega
theorem okf_mono {B B' : Nat} {f : Nat → Int32} (hb : B ≤ B') (h : Okf B f) : Okf B' f := by
  obtain ⟨h1, h2, ⟨h3, h4, h5, h6, h7, h8, h9⟩, h10, h11, h12⟩ := h
  exact ⟨h1, h2, ⟨h3, h4, h5, rg_le h6 hb, h7, rg_le h8 hb, rg_le h9 hb⟩, h10, h11, h12⟩
theorem cap_b {x : Nat} (hx : x < 1000000) : ∃ y, y ≤ 1000 ∧ cap (nI x) = nI y := by
  unfold cap
  by_cases h : x ≤ 1000
  · exact ⟨x, h, by rw [if_pos ((nI_leI (by omega) (by omega)).mpr h)]⟩
  · exact ⟨1000, by omega, by rw [if_neg (fun q => h ((nI_leI (by omega) (by omega)).mp q))]⟩
theorem crs_o {f : Nat → Int32} {j : Nat} (h : j < 27 ∨ j = 49 ∨ (53 ≤ j ∧ j ≠ 56)) : fCrs f j = f j := by
  unfold fCrs
  rw [pk_un (by omega), pk_un (by omega), pas_o (by omega) (by omega), c1_o (by omega) (by omega) (by omega)]
theorem pas_50 {f : Nat → Int32} {h : Int32} : fPas f h 50 = f 50 + h := by
  unfold fPas
  rw [pk_un (by omega), pk_us]
theorem okf_crs {B : Nat} {f : Nat → Int32} (hB : B < 900000000) (h : Okf B f) : Okf (B + 4) (fCrs f) := by
  have hh := sl_b h
  have hx := (okf_cro h).2
  have ht : ∀ k, k < 20 → ∃ t, t ≤ 960 ∧ fTen f k = nI t := fun k hk => ten_b h hk
  obtain ⟨h1, h2, ⟨h3, h4, h5, h6, h7, h8, h9⟩, h10, h11, h12, h13, h14, h15⟩ := h
  have h2p := h14.2
  refine ⟨fun k hk => rg_c (crs_o (by omega)) (h1 k hk), fun k hk => ?_, ⟨?_, ?_, ?_, ?_, ?_, ?_, ?_⟩, fun b hb => ?_, fun a ha => ?_, ?_, ?_, ?_, ?_⟩
  · obtain ⟨t, t1, t2⟩ := ht k hk
    have hw := h2 k hk
    have hwb := hw.2
    have hd : t / nn f 2 ≤ 960 := Nat.le_trans (Nat.div_le_self _ _) t1
    obtain ⟨y, y1, y2⟩ := cap_b (x := nn f (27 + k) + t / nn f 2) (by omega)
    refine rg_v (x := y) ?_ y1 (by omega)
    unfold fCrs
    rw [pk_un (by omega), pk_un (by omega), pas_o (by omega) (by omega)]
    unfold fC1
    rw [stc_o (by omega) (by omega)]
    unfold crW
    rw [if_pos (by omega), show 27 + k - 27 = k by omega, t2, hw.1, h14.1, pk_div (by omega) (by omega) (by omega), nI_add, y2]
  · refine rg_v (x := fSl f) ?_ hh.1 (by omega)
    unfold fCrs
    rw [pk_un (by omega), pk_un (by omega), pas_o (by omega) (by omega)]
    exact stc_47
  · refine rg_v (x := fX f % 500) ?_ (by omega) (by omega)
    unfold fCrs
    rw [pk_un (by omega), pk_un (by omega), pas_o (by omega) (by omega)]
    unfold fC1 fStc
    rw [pk_un (by omega), pk_us]
  · exact rg_c (crs_o (by omega)) h5
  · have h6b := h6.2
    refine rg_v (x := nn f 50 + fHrs f) ?_ (by omega) (by omega)
    unfold fCrs
    rw [pk_un (by omega), pk_un (by omega), pas_50, c1_o (by omega) (by omega) (by omega), h6.1, nI_add]
  · have h7b := h7.2
    refine rg_v (x := 1 - nn f 51) ?_ (by omega) (by omega)
    unfold fCrs
    rw [pk_un (by omega), pk_us, h7.1, pk_sub (by omega)]
  · exact rg_le (rg_c (crs_o (by omega)) h8) (by omega)
  · exact rg_le (rg_c (crs_o (by omega)) h9) (by omega)
  · have e := h10 b hb
    have e1 := e.1.2
    refine ⟨rg_c (crs_o (by omega)) e.1, fun j hj => ?_⟩
    rw [nn_c (crs_o (by omega))] at hj
    exact rg_c (crs_o (by omega)) (e.2 j hj)
  · have e := h11 a ha
    have e1 := e.1.2
    refine ⟨rg_c (crs_o (by omega)) e.1, fun j hj => ?_⟩
    rw [nn_c (crs_o (by omega))] at hj
    exact ⟨rg_c (crs_o (by omega)) (e.2 j hj).1, rg_c (crs_o (by omega)) (e.2 j hj).2⟩
  · exact rg_c (crs_o (by omega)) h12
  · exact rg_c (crs_o (by omega)) h13
  · exact rg_c (crs_o (by omega)) h14
  · rw [nn_c (crs_o (by omega))]; exact h15
theorem drw_o {f : Nat → Int32} {n j : Nat} (h : j < 27 ∨ (51 ≤ j ∧ j ≠ 56)) : fDrw f n j = f j := by
  unfold fDrw
  rw [pas_o (by omega) (by omega), pk_un (by omega), pk_un (by omega), pk_un (by omega), drW_o (by omega)]
theorem okf_drw {B n : Nat} {f : Nat → Int32} (hB : B < 900000000) (hn : n ≤ 5) (hd : n ≤ nn f 49) (h : Okf B f) : Okf (B + 5) (fDrw f n) := by
  obtain ⟨h1, h2, ⟨h3, h4, h5, h6, h7, h8, h9⟩, h10, h11, h12, h13, h14, h15⟩ := h
  refine ⟨fun k hk => rg_c (drw_o (by omega)) (h1 k hk), fun k hk => ?_, ⟨?_, ?_, ?_, ?_, ?_, ?_, ?_⟩, fun b hb => ?_, fun a ha => ?_, ?_, ?_, ?_, ?_⟩
  · have e : fDrw f n (27 + k) = if 27 + k + n < 47 then f (27 + k + n) else nI 0 := by
      unfold fDrw
      rw [pas_o (by omega) (by omega), pk_un (by omega), pk_un (by omega), pk_un (by omega)]
      unfold drW
      rw [if_pos (by omega : 27 ≤ 27 + k ∧ 27 + k < 27 + 20)]
    by_cases q : 27 + k + n < 47
    · rw [if_pos q] at e
      have w := h2 (k + n) (by omega)
      rw [show 27 + (k + n) = 27 + k + n by omega] at w
      refine rg_v (e.trans w.1) w.2 (by omega)
    · rw [if_neg q] at e
      exact rg_v e (by omega) (by omega)
  · refine rg_v (x := 0) ?_ (by omega) (by omega)
    unfold fDrw
    rw [pas_o (by omega) (by omega), pk_un (by omega), pk_us]
  · refine rg_v (x := 0) ?_ (by omega) (by omega)
    unfold fDrw
    rw [pas_o (by omega) (by omega), pk_us]
  · have h5b := h5.2
    refine rg_v (x := nn f 49 - n) ?_ (by omega) (by omega)
    unfold fDrw
    rw [pas_o (by omega) (by omega), pk_un (by omega), pk_un (by omega), pk_us, h5.1, pk_sub hd]
  · have h6b := h6.2
    refine rg_v (x := nn f 50 + n) ?_ (by omega) (by omega)
    unfold fDrw
    rw [pas_50, pk_un (by omega), pk_un (by omega), pk_un (by omega), drW_o (by omega), h6.1, nI_add]
  · exact rg_c (drw_o (by omega)) h7
  · exact rg_le (rg_c (drw_o (by omega)) h8) (by omega)
  · exact rg_le (rg_c (drw_o (by omega)) h9) (by omega)
  · have e := h10 b hb
    have e1 := e.1.2
    refine ⟨rg_c (drw_o (by omega)) e.1, fun j hj => ?_⟩
    rw [nn_c (drw_o (by omega))] at hj
    exact rg_c (drw_o (by omega)) (e.2 j hj)
  · have e := h11 a ha
    have e1 := e.1.2
    refine ⟨rg_c (drw_o (by omega)) e.1, fun j hj => ?_⟩
    rw [nn_c (drw_o (by omega))] at hj
    exact ⟨rg_c (drw_o (by omega)) (e.2 j hj).1, rg_c (drw_o (by omega)) (e.2 j hj).2⟩
  · exact rg_c (drw_o (by omega)) h12
  · exact rg_c (drw_o (by omega)) h13
  · exact rg_c (drw_o (by omega)) h14
  · rw [nn_c (drw_o (by omega))]; exact h15
/-! what the looks answer -/
def fOf (f : Nat → Int32) (k w : Nat) : Int32 := if w = 0 then f (27 + k) else if w = 1 then fStr f k else fTen f k
def fCnt (f : Nat → Int32) (n : Nat) : Nat → Int32
  | 0 => f 50
  | 1 => f 51
  | 2 => f 79 + f 88
  | 3 => fLw f 0 + fLw f 1
  | 4 => fLst f
  | 5 => f 47
  | 6 => f 48
  | 7 => f 49
  | 8 => f 52
  | 9 => f 53
  | 10 => f 54
  | 11 => f 55
  | 12 => f 56
  | _ => nI n
def fRes (f : Nat → Int32) (k : Nat) : Int32 := fStr f k - fTen f k
def wkN (f : Nat → Int32) : Nat → Nat
  | 0 => 0
  | k + 1 => if fRes f (wkN f k) ≤ fRes f k then wkN f k else k
theorem wkN_1 {f : Nat → Int32} : wkN f 1 = 0 := by
  show (if _ then wkN f 0 else 0) = 0
  split <;> rfl
def fWl (f : Nat → Int32) (q : Nat) : Int32 := if fCan f q = true then fGre f (f (3 + nn f 50 % 24)) (absI (fLw f 0 - fLw f 1 + (if q = 0 then f (fAt f + 1 + 0) else -f (fAt f + 1 + 0)))) (fLw f 0 + fLw f 1 + f (fAt f + 1 + 0)) else -1
def gH (f : Nat → Int32) (h : Nat) : Int32 := fGre f (f (3 + (nn f 50 + h) % 24)) (fLst f) (fLw f 0 + fLw f 1)
def bL (f : Nat → Int32) : Nat → Int32
  | 0 => gH f 0
  | k + 1 => if bL f k ≤ gH f k then bL f k else gH f k
def bN (f : Nat → Int32) : Nat → Nat
  | 0 => 0
  | k + 1 => if bL f k ≤ gH f k then bN f k else k
theorem bL_1 {f : Nat → Int32} : bL f 1 = gH f 0 := by
  show (if _ then gH f 0 else gH f 0) = gH f 0
  split <;> rfl
theorem bN_1 {f : Nat → Int32} : bN f 1 = 0 := by
  show (if _ then bN f 0 else 0) = 0
  split <;> rfl
def bitL (s k : Nat) : Nat := s / 2 ^ k % 2
def lbA (f : Nat → Int32) (s : Nat) : Nat → Int32
  | 0 => fLw f 0 - fLw f 1
  | k + 1 => lbA f s k + (if bitL s k = 1 then f (57 + 11 * nn f 51 + 1 + k) else -f (57 + 11 * nn f 51 + 1 + k))
def lbC (s : Nat) : Nat → Nat
  | 0 => 0
  | k + 1 => lbC s k + (if bitL s k = 1 then 1 else 0)
theorem lbC_le {s k : Nat} : lbC s k ≤ k := by
  induction k with
  | zero => exact Nat.le_refl _
  | succ k ih =>
    show lbC s k + _ ≤ _
    split <;> omega
def lbR (f : Nat → Int32) (v s : Nat) : Int32 := if nn f 79 + lbC s v ≤ 4 ∧ nn f 88 + (v - lbC s v) ≤ 4 then absI (lbA f s v) else -1
def lsB (f : Nat → Int32) (v : Nat) : Nat → Int32
  | 0 => -1
  | s + 1 => if ¬ lbR f v s = -1 ∧ (lsB f v s = -1 ∨ ¬ lsB f v s ≤ lbR f v s) then lbR f v s else lsB f v s
def fLs (f : Nat → Int32) (v : Nat) : Int32 := if v ≤ nn f (57 + (11 * nn f 51)) then lsB f v (2 ^ v) else -1
def nCr : Nat → (Nat → Int32) → Nat
  | 0, _ => 0
  | k + 1, g => if fRsn g = 0 then nCr k (fCrs g) + 1 else 0
theorem nCr_y {k : Nat} {g : Nat → Int32} (h : fRsn g = 0) : nCr (k + 1) g = nCr k (fCrs g) + 1 := if_pos h
theorem nCr_n {k : Nat} {g : Nat → Int32} (h : ¬ fRsn g = 0) : nCr k g = 0 := by
  cases k with
  | zero => rfl
  | succ k => exact if_neg h
def ndL (f : Nat → Int32) : Nat → Nat → Int32
  | 0, _ => -1
  | t + 1, k => if nI k ≤ f 49 then (if fRsn (fDrw f k) = 0 then nI k else ndL f t (k + 1)) else -1
def fNd (f : Nat → Int32) : Int32 := if fRsn f = 0 then nI 0 else ndL f 5 1
theorem shl1 : ∀ v, v < 9 → nI 1 <<< (nI v &&& 31) = nI (2 ^ v) := by decide +kernel
theorem pow9 {v : Nat} (h : v ≤ 8) : 1 ≤ 2 ^ v ∧ 2 ^ v ≤ 256 := by
  constructor
  · exact Nat.one_le_two_pow
  · exact Nat.pow_le_pow_right (by omega) h
theorem bit_v : ∀ k, k < 9 → ∀ s, s < 256 → (nI s >>> (nI k &&& 31)) &&& nI 1 = nI (bitL s k) := by decide +kernel
theorem bitL_lt {s k : Nat} : bitL s k < 2 := Nat.mod_lt _ (by omega)
def mxL (g : Nat → Int64) (h : Int64) : Nat → Int64
  | 0 => h
  | k + 1 => 31 * mxL g h k + g k
