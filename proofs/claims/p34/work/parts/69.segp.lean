/-! bounds of what a call leaves -/
theorem okf_xF {t : Nat → Nat} {n : Nat} : ∀ (k sp B : Nat) (f : Nat → Int32), B + 100 * k < 900000000 → Okf B f → pW t n k sp = true → Okf (B + 100 * k) (xF t n k sp f) := by
  intro k
  induction k with
  | zero => intro sp B f _ ho _; exact ho
  | succ k ih =>
    intro sp B f hB ho hw
    have hw' : (if okF t n sp = true then (if moF t n sp then pW t n k (nxF t n sp + 1) else decide (nxF t n sp = n)) else false) = true := hw
    by_cases hok : okF t n sp = true
    · rw [if_pos hok] at hw'
      have hod := (od_ok (o1 := 0) (o2 := 0) hok).2.2
      by_cases hc : cnD f (lC t n sp) (oX t n sp) = true
      · have h1 := okf_do (by omega) ho hod hc
        by_cases hm : moF t n sp
        · rw [if_pos hm] at hw'
          rw [(x_m hc hm).1]
          exact okf_mono (by omega) (ih (nxF t n sp + 1) (B + 100) _ (by omega) h1 hw')
        · rw [(x_e hc hm).1]
          exact okf_mono (by omega) h1
      · rw [(x_n hc).1]
        exact okf_mono (by omega) ho
    · rw [if_neg hok] at hw'
      cases hw'
theorem okf_yF {B : Nat} {tx : Nat → Int32} {len : Nat} {f : Nat → Int32} (hB : B < 700000000) (ho : Okf B f) (hl : len ≤ 60) (hW : pW (nn tx) len (len + 1) 0 = true) : Okf (B + 10000) (yF (nn tx) len len 0 f) := by
  have ey : yF (nn tx) len len 0 f = xF (nn tx) len (len + 1) 0 f := (y_x (t := nn tx) (n := len) (k := len + 1) (s := 0) (f := f) hW (Or.inl rfl) (Nat.zero_le _)).1
  rw [ey]
  exact okf_mono (by omega) (okf_xF (len + 1) 0 B f (by omega) ho hW)
theorem okf_cur {B : Nat} {f : Nat → Int32} {h q : Nat} (ho : Okf B f) (hh : h < 24) (hq : q ≤ 40) : Okf B (upd f (3 + h) (nI q)) := by
  obtain ⟨a1, a2, a3, a4, a5, a6⟩ := ho
  refine ⟨fun k hk => ?_, fun k hk => rg_u (by omega) (a2 k hk), ⟨rg_u (by omega) a3.1, rg_u (by omega) a3.2.1, rg_u (by omega) a3.2.2.1, rg_u (by omega) a3.2.2.2.1, rg_u (by omega) a3.2.2.2.2.1, rg_u (by omega) a3.2.2.2.2.2.1, rg_u (by omega) a3.2.2.2.2.2.2⟩, fun b hb => ⟨rg_u (by omega) (a4 b hb).1, fun j hj => ?_⟩, fun a ha => ⟨rg_u (by omega) (a5 a ha).1, fun j hj => ?_⟩, ⟨rg_u (by omega) a6.1, rg_u (by omega) a6.2.1, rg_u (by omega) a6.2.2.1, ?_⟩⟩
  · by_cases e : k = h
    · subst e
      exact ⟨by rw [pk_us, nn_v pk_us (by omega)], by rw [nn_v pk_us (by omega)]; exact hq⟩
    · exact rg_u (by omega) (a1 k hk)
  · rw [nn_c (pk_un (by omega))] at hj
    exact rg_u (by omega) ((a4 b hb).2 j hj)
  · rw [nn_c (pk_un (by omega))] at hj
    exact ⟨rg_u (by omega) ((a5 a ha).2 j hj).1, rg_u (by omega) ((a5 a ha).2 j hj).2⟩
  · rw [nn_c (pk_un (by omega))]
    exact a6.2.2.2
theorem okf_set {B : Nat} {f : Nat → Int32} {s0 v : Nat} (ho : Okf B f) (hs : s0 < 3) (h1 : stLo s0 ≤ v) (h2 : v ≤ stHi s0) : Okf B (upd f s0 (nI v)) := by
  obtain ⟨a1, a2, a3, a4, a5, a6⟩ := ho
  have hv : v ≤ 999 := by
    rcases (show s0 = 0 ∨ s0 = 1 ∨ s0 = 2 by omega) with rfl | rfl | rfl <;> exact Nat.le_trans h2 (by decide)
  refine ⟨fun k hk => rg_u (by omega) (a1 k hk), fun k hk => rg_u (by omega) (a2 k hk), ⟨rg_u (by omega) a3.1, rg_u (by omega) a3.2.1, rg_u (by omega) a3.2.2.1, rg_u (by omega) a3.2.2.2.1, rg_u (by omega) a3.2.2.2.2.1, rg_u (by omega) a3.2.2.2.2.2.1, rg_u (by omega) a3.2.2.2.2.2.2⟩, fun b hb => ⟨rg_u (by omega) (a4 b hb).1, fun j hj => ?_⟩, fun a ha => ⟨rg_u (by omega) (a5 a ha).1, fun j hj => ?_⟩, ?_⟩
  · rw [nn_c (pk_un (by omega))] at hj
    exact rg_u (by omega) ((a4 b hb).2 j hj)
  · rw [nn_c (pk_un (by omega))] at hj
    exact ⟨rg_u (by omega) ((a5 a ha).2 j hj).1, rg_u (by omega) ((a5 a ha).2 j hj).2⟩
  · have hh : ∀ m : Nat, v ≤ m → rg (upd f s0 (nI v)) s0 m := fun m hm => ⟨by rw [pk_us, nn_v pk_us (by omega)], by rw [nn_v pk_us (by omega)]; exact hm⟩
    rcases (show s0 = 0 ∨ s0 = 1 ∨ s0 = 2 by omega) with rfl | rfl | rfl
    · exact ⟨hh 999 h2, rg_u (by omega) a6.2.1, rg_u (by omega) a6.2.2.1, by rw [nn_c (pk_un (by omega))]; exact a6.2.2.2⟩
    · exact ⟨rg_u (by omega) a6.1, hh 80 h2, rg_u (by omega) a6.2.2.1, by rw [nn_c (pk_un (by omega))]; exact a6.2.2.2⟩
    · exact ⟨rg_u (by omega) a6.1, rg_u (by omega) a6.2.1, hh 50 h2, by rw [nn_v pk_us (by omega)]; exact h1⟩
theorem cmp_eq (x : UInt64) (op : Jvm.ClassFile.CmpOp) : Op.cmpValue (FP.dcmp x x) op = 0 ∨ FP.dcmp x x = none := by
  rcases cmpS_64 x op with h | h
  · exact Or.inr h
  · exact Or.inl (by rw [h]; rfl)
