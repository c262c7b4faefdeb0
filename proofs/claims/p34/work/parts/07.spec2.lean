/-! what the reference's rows become -/
theorem upd_self {f : Nat → Int32} {k : Nat} {v : Int32} (h : f k = v) : upd f k v = f := by
  funext j
  by_cases q : j = k
  · subst q; rw [pk_us, h]
  · rw [pk_un q]
theorem upd_same {f : Nat → Int32} {k : Nat} {v w : Int32} : upd (upd f k v) k w = upd f k w := by
  funext j
  by_cases q : j = k
  · subst q; rw [pk_us, pk_us]
  · rw [pk_un q, pk_un q, pk_un q]
theorem upd_comm {f : Nat → Int32} {k l : Nat} {v w : Int32} (h : k ≠ l) : upd (upd f k v) l w = upd (upd f l w) k v := by
  funext j
  by_cases q : j = k
  · subst q; rw [pk_un h, pk_us, pk_us]
  · by_cases r : j = l
    · subst r; rw [pk_us, pk_un q, pk_us]
    · rw [pk_un r, pk_un q, pk_un q, pk_un r]
def fStc (f : Nat → Int32) (x sl : Nat) : Nat → Int32 := upd (upd f 48 (nI (x % 500))) 47 (nI (min 30 (sl + x / 500)))
theorem stc_0 {f : Nat → Int32} {t : Int32} {x sl : Nat} (h1 : f 48 + t = nI x) (h2 : f 47 = nI sl) : upd (upd f 48 (nI x)) 47 (nI sl) = upd f 48 (f 48 + t) := by
  rw [h1]
  exact upd_self (by rw [pk_un (by omega)]; exact h2)
theorem stc_s {f : Nat → Int32} {y s2 z w : Int32} : upd (upd (upd (upd f 48 y) 47 s2) 48 z) 47 w = upd (upd f 48 z) 47 w := by
  rw [upd_comm (k := 47) (l := 48) (by omega), upd_same, upd_same]
def cap (v : Int32) : Int32 := if v ≤ nI 1000 then v else nI 1000
def crW (f : Nat → Int32) (i : Nat) : Nat → Int32 := fun j => if 27 ≤ j ∧ j < 27 + i then cap (f j + fTen f (j - 27) / f 2) else f j
theorem crW_0 {f : Nat → Int32} : crW f 0 = f := by
  funext j
  simp [crW]
  omega
theorem crW_o {f : Nat → Int32} {i j : Nat} (h : j < 27 ∨ 27 + i ≤ j) : crW f i j = f j := by
  unfold crW
  rw [if_neg (by omega)]
theorem crW_s {f : Nat → Int32} {i : Nat} : upd (crW f i) (27 + i) (cap (f (27 + i) + fTen f i / f 2)) = crW f (i + 1) := by
  funext j
  by_cases q : j = 27 + i
  · subst q
    rw [pk_us]
    unfold crW
    rw [if_pos (by omega), show 27 + i - 27 = i by omega]
  · rw [pk_un q]
    unfold crW
    by_cases h : 27 ≤ j ∧ j < 27 + i
    · rw [if_pos h, if_pos (by omega)]
    · rw [if_neg h, if_neg (by omega)]
theorem sumI_c {g h : Nat → Int32} {n : Nat} (e : ∀ j, j < n → g j = h j) : sumI g n = sumI h n := by
  induction n with
  | zero => rfl
  | succ n ih =>
    show sumI g n + g n = sumI h n + h n
    rw [ih (fun j hj => e j (by omega)), e n (by omega)]
theorem maxI_c {g h : Nat → Int32} {n : Nat} (e : ∀ j, j < n → g j = h j) : maxI g n = maxI h n := by
  induction n with
  | zero => rfl
  | succ n ih =>
    show (if g n ≤ maxI g n then maxI g n else g n) = (if h n ≤ maxI h n then maxI h n else h n)
    rw [ih (fun j hj => e j (by omega)), e n (by omega)]
/-- rows that agree but for the wear -/
def Aw (g f : Nat → Int32) : Prop := ∀ j, j < 97 → (j < 27 ∨ 47 ≤ j) → g j = f j
theorem nn_c {g f : Nat → Int32} {j : Nat} (h : g j = f j) : nn g j = nn f j := by unfold nn; rw [h]
theorem lw_c {g f : Nat → Int32} (h : Aw g f) (hs : Shp f) {a : Nat} (ha : a < 2) : fLw g a = fLw f a := by
  unfold fLw
  have h1 := hs.1 a ha
  rw [nn_c (h _ (by omega) (by omega))]
  exact sumI_c (fun j hj => h _ (by omega) (by omega))
theorem lst_c {g f : Nat → Int32} (h : Aw g f) (hs : Shp f) : fLst g = fLst f := by
  unfold fLst
  rw [lw_c h hs (by omega), lw_c h hs (by omega)]
theorem tby_c {g f : Nat → Int32} (h : g 47 = f 47) {k : Nat} {cu li wt : Int32} : fTby g k cu li wt = fTby f k cu li wt := by
  unfold fTby fTb0
  rw [h]
theorem ten_c {g f : Nat → Int32} (h : Aw g f) (hs : Shp f) {k : Nat} : fTen g k = fTen f k := by
  unfold fTen
  rw [lst_c h hs, lw_c h hs (by omega), lw_c h hs (by omega), nn_c (h 50 (by omega) (by omega)), h (3 + nn f 50 % 24) (by omega) (by omega)]
  exact tby_c (h 47 (by omega) (by omega))
theorem shp_c {g f : Nat → Int32} (h : Aw g f) (hs : Shp f) : Shp g := by
  obtain ⟨h1, h2, h3, h4, h5⟩ := hs
  have e : ∀ j, j < 97 → (j < 27 ∨ 47 ≤ j) → g j = f j ∧ nn g j = nn f j := fun j a b => ⟨h j a b, nn_c (h j a b)⟩
  refine ⟨fun a ha => ?_, fun b hb => ?_, ?_, ?_, ?_⟩
  · rw [(e (79 + 9 * a) (by omega) (by omega)).1, (e (79 + 9 * a) (by omega) (by omega)).2]; exact h1 a ha
  · rw [(e (57 + 11 * b) (by omega) (by omega)).1, (e (57 + 11 * b) (by omega) (by omega)).2]; exact h2 b hb
  · rw [(e 51 (by omega) (by omega)).1, (e 51 (by omega) (by omega)).2]; exact h3
  · rw [(e 50 (by omega) (by omega)).1, (e 50 (by omega) (by omega)).2]; exact h4
  · rw [(e 2 (by omega) (by omega)).1, (e 2 (by omega) (by omega)).2]; exact h5
theorem aw_crW {f : Nat → Int32} {i : Nat} (hi : i ≤ 20) : Aw (crW f i) f := fun j _ h => crW_o (by omega)
def fX (f : Nat → Int32) : Nat := (f 48 + sumI (fTen f) 20).toNatClampNeg
/-- stretch and slack are such that a crossing can be reckoned -/
def Cro (f : Nat → Int32) : Prop := f 48 + sumI (fTen f) 20 = nI (fX f) ∧ fX f < 1000000 ∧ f 47 = nI (nn f 47) ∧ nn f 47 ≤ 30
def fSl (f : Nat → Int32) : Nat := min 30 (nn f 47 + fX f / 500)
def fHrs (f : Nat → Int32) : Nat := 1 + fSl f / 10
def fC1 (f : Nat → Int32) : Nat → Int32 := fStc (crW f 20) (fX f) (nn f 47)
def fCrs (f : Nat → Int32) : Nat → Int32 := upd (upd (fPas (fC1 f) (nI (fHrs f))) 51 (nI 1 - f 51)) 52 (f 52 + nI 1)
theorem pas_o {f : Nat → Int32} {h : Int32} {j : Nat} (h1 : j ≠ 50) (h2 : j ≠ 56) : fPas f h j = f j := by
  unfold fPas
  rw [pk_un h2, pk_un h1]
theorem stc_o {f : Nat → Int32} {x sl j : Nat} (h1 : j ≠ 47) (h2 : j ≠ 48) : fStc f x sl j = f j := by
  unfold fStc
  rw [pk_un h1, pk_un h2]
theorem stc_47 {f : Nat → Int32} {x sl : Nat} : fStc f x sl 47 = nI (min 30 (sl + x / 500)) := by
  unfold fStc
  rw [pk_us]
theorem c1_o {f : Nat → Int32} {j : Nat} (h1 : j ≠ 47) (h2 : j ≠ 48) (h3 : j < 27 ∨ 47 ≤ j) : fC1 f j = f j := by
  unfold fC1
  rw [stc_o h1 h2, crW_o (by omega)]
def drW (f : Nat → Int32) (n i : Nat) : Nat → Int32 := fun j => if 27 ≤ j ∧ j < 27 + i then (if j + n < 47 then f (j + n) else nI 0) else f j
theorem drW_0 {f : Nat → Int32} {n : Nat} : drW f n 0 = f := by
  funext j
  simp [drW]
  omega
theorem drW_o {f : Nat → Int32} {n i j : Nat} (h : j < 27 ∨ 27 + i ≤ j) : drW f n i j = f j := by
  unfold drW
  rw [if_neg (by omega)]
theorem drW_s {f : Nat → Int32} {n i : Nat} {v : Int32} (hv : v = if 27 + i + n < 47 then f (27 + i + n) else nI 0) : upd (drW f n i) (27 + i) v = drW f n (i + 1) := by
  funext j
  by_cases q : j = 27 + i
  · subst q
    rw [pk_us, hv]
    unfold drW
    rw [if_pos (by omega : 27 ≤ 27 + i ∧ 27 + i < 27 + (i + 1))]
  · rw [pk_un q]
    unfold drW
    by_cases h : 27 ≤ j ∧ j < 27 + i
    · rw [if_pos h, if_pos (by omega : 27 ≤ j ∧ j < 27 + (i + 1))]
    · rw [if_neg h, if_neg (by omega : ¬ (27 ≤ j ∧ j < 27 + (i + 1)))]
def fDrw (f : Nat → Int32) (n : Nat) : Nat → Int32 := fPas (upd (upd (upd (drW f n 20) 49 (f 49 - nI n)) 47 (nI 0)) 48 (nI 0)) (nI n)
def fArr (f : Nat → Int32) (b : Nat) (w : Int32) : Nat → Int32 := upd (upd (upd f (((57 + (11 * b)) + 1) + nn f (57 + (11 * b))) w) (57 + (11 * b)) (f (57 + (11 * b)) + nI 1)) 53 (f 53 + nI 1)
def shW (g : Nat → Int32) (at0 i : Nat) : Nat → Int32 := fun j => if at0 + 1 ≤ j ∧ j < at0 + i then g (j + 1) else g j
theorem shW_1 {g : Nat → Int32} {at0 : Nat} : shW g at0 1 = g := by
  funext j
  unfold shW
  rw [if_neg (by omega)]
theorem shW_o {g : Nat → Int32} {at0 i j : Nat} (h : j < at0 + 1 ∨ at0 + i ≤ j) : shW g at0 i j = g j := by
  unfold shW
  rw [if_neg (by omega)]
theorem shW_s {g : Nat → Int32} {at0 i : Nat} (h1 : 1 ≤ i) : upd (shW g at0 i) (at0 + i) (g (at0 + i + 1)) = shW g at0 (i + 1) := by
  funext j
  by_cases q : j = at0 + i
  · subst q
    rw [pk_us]
    unfold shW
    rw [if_pos (by omega)]
  · rw [pk_un q]
    unfold shW
    by_cases h : at0 + 1 ≤ j ∧ j < at0 + i
    · rw [if_pos h, if_pos (by omega)]
    · rw [if_neg h, if_neg (by omega)]
def zrW (g : Nat → Int32) (i : Nat) : Nat → Int32 := fun j => if 79 ≤ j ∧ j < i then nI 0 else g j
theorem zrW_0 {g : Nat → Int32} : zrW g 79 = g := by
  funext j
  unfold zrW
  rw [if_neg (by omega)]
theorem zrW_s {g : Nat → Int32} {i : Nat} (h1 : 79 ≤ i) : upd (zrW g i) i (nI 0) = zrW g (i + 1) := by
  funext j
  by_cases q : j = i
  · subst q
    rw [pk_us]
    unfold zrW
    rw [if_pos (by omega)]
  · rw [pk_un q]
    unfold zrW
    by_cases h : 79 ≤ j ∧ j < i
    · rw [if_pos h, if_pos (by omega)]
    · rw [if_neg h, if_neg (by omega)]
/-- the bank, its row's place -/
def fAt (f : Nat → Int32) : Nat := 57 + (11 * nn f 51)
def fL1 (f : Nat → Int32) : Nat → Int32 := upd (shW (upd f (fAt f) (f (fAt f) - nI 1)) (fAt f) 10) (fAt f + 10) (nI 0)
def fLod (f : Nat → Int32) (a : Nat) : Nat → Int32 := upd (upd (upd (fL1 f) (((79 + (9 * a)) + 1) + (2 * nn f (79 + (9 * a)))) (f (fAt f + 1))) (((79 + (9 * a)) + 2) + (2 * nn f (79 + (9 * a)))) (f 51)) (79 + (9 * a)) (f (79 + (9 * a)) + nI 1)
theorem l1_o {f : Nat → Int32} {j : Nat} (h : j < fAt f ∨ fAt f + 10 < j) : fL1 f j = f j := by
  unfold fL1
  rw [pk_un (by omega), shW_o (by omega), pk_un (by omega)]
def unI (f : Nat → Int32) (k : Nat) : Bool := decide (k % 4 < nn f (79 + (9 * (k / 4))))
def unF (f : Nat → Int32) (k : Nat) : Bool := unI f k && decide (¬ f ((((79 + (9 * (k / 4))) + 1) + (2 * (k % 4))) + 1) = f 51)
def unC (f : Nat → Int32) : Int32 := sumI (fun k => b2 (unF f k = true)) 8
def unT (f : Nat → Int32) (k : Nat) : Int32 := b2 (unI f k = true ∧ ¬ unF f k = true)
def fUnl (f : Nat → Int32) : Nat → Int32 := zrW (upd (upd f 55 (f 55 + sumI (unT f) 8)) 54 (f 54 + unC f)) 97
theorem upd0 {f : Nat → Int32} {k : Nat} : upd f k (f k + nI 0) = f := upd_self (by rw [nI_0, Int32.add_zero])
theorem fSl_lt (f : Nat → Int32) : fSl f < 2147483648 := by unfold fSl; omega
def fCan (f : Nat → Int32) (q : Nat) : Bool := decide (0 < nn f (57 + (11 * nn f 51)) ∧ nn f (79 + (9 * q)) < 4)
theorem shp_e {g f : Nat → Int32} (h : ∀ j, j = 2 ∨ j = 50 ∨ j = 51 ∨ j = 57 ∨ j = 68 ∨ j = 79 ∨ j = 88 → g j = f j) (hs : Shp f) : Shp g := by
  obtain ⟨h1, h2, h3, h4, h5⟩ := hs
  refine ⟨fun a ha => ?_, fun b hb => ?_, ?_, ?_, ?_⟩
  · have e := h (79 + 9 * a) (by omega)
    rw [e, nn_c e]; exact h1 a ha
  · have e := h (57 + 11 * b) (by omega)
    rw [e, nn_c e]; exact h2 b hb
  · have e := h 51 (by omega)
    rw [e, nn_c e]; exact h3
  · have e := h 50 (by omega)
    rw [e, nn_c e]; exact h4
  · have e := h 2 (by omega)
    rw [e, nn_c e]; exact h5
theorem shp_55 {f : Nat → Int32} {v : Int32} (hs : Shp f) : Shp (upd f 55 v) := shp_e (fun j h => pk_un (by omega)) hs
