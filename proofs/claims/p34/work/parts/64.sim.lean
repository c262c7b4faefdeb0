/-! the class and the reference, side by side -/
theorem pm_SAV {FE N T S HI R0 R1 R2 R3 R4 R5 OR : va_W} : List.Perm (FE ++ (N ++ (T ++ (S ++ (HI ++ (R0 ++ (R1 ++ (R2 ++ (R3 ++ (R4 ++ (R5 ++ (OR ++ ([]))))))))))))) ((FE ++ (N ++ (HI ++ (R0 ++ (R1 ++ (R2 ++ (R3 ++ (R4 ++ (R5 ++ ([])))))))))) ++ (T ++ (S ++ (OR ++ ([]))))) := by
  have q : List.Perm (FE ++ (N ++ (T ++ (S ++ (HI ++ (R0 ++ (R1 ++ (R2 ++ (R3 ++ (R4 ++ (R5 ++ (OR ++ ([]))))))))))))) (FE ++ (N ++ (HI ++ (R0 ++ (R1 ++ (R2 ++ (R3 ++ (R4 ++ (R5 ++ (T ++ (S ++ (OR ++ ([]))))))))))))) := br10.trans (br10.trans (br10.trans (br10.trans (br10.trans (br10.trans (br10.trans (br8.trans (br8))))))))
  simpa only [List.append_assoc, List.nil_append, List.append_nil] using q
theorem pm_FO {FE N T S HI R0 R1 R2 R3 R4 R5 OR : va_W} : List.Perm (FE ++ (N ++ (T ++ (S ++ (HI ++ (R0 ++ (R1 ++ (R2 ++ (R3 ++ (R4 ++ (R5 ++ (OR ++ ([]))))))))))))) ((FE ++ (OR ++ ([]))) ++ (N ++ (T ++ (S ++ (HI ++ (R0 ++ (R1 ++ (R2 ++ (R3 ++ (R4 ++ (R5 ++ ([])))))))))))) := by
  have q : List.Perm (FE ++ (N ++ (T ++ (S ++ (HI ++ (R0 ++ (R1 ++ (R2 ++ (R3 ++ (R4 ++ (R5 ++ (OR ++ ([]))))))))))))) (FE ++ (OR ++ (N ++ (T ++ (S ++ (HI ++ (R0 ++ (R1 ++ (R2 ++ (R3 ++ (R4 ++ (R5 ++ ([]))))))))))))) := br11.trans (br1)
  simpa only [List.append_assoc, List.nil_append, List.append_nil] using q
theorem pm_FN {FE N T S HI R0 R1 R2 R3 R4 R5 OR : va_W} : List.Perm (FE ++ (N ++ (T ++ (S ++ (HI ++ (R0 ++ (R1 ++ (R2 ++ (R3 ++ (R4 ++ (R5 ++ (OR ++ ([]))))))))))))) ((FE ++ (N ++ ([]))) ++ (T ++ (S ++ (HI ++ (R0 ++ (R1 ++ (R2 ++ (R3 ++ (R4 ++ (R5 ++ (OR ++ ([])))))))))))) := by
  have q : List.Perm (FE ++ (N ++ (T ++ (S ++ (HI ++ (R0 ++ (R1 ++ (R2 ++ (R3 ++ (R4 ++ (R5 ++ (OR ++ ([]))))))))))))) (FE ++ (N ++ (T ++ (S ++ (HI ++ (R0 ++ (R1 ++ (R2 ++ (R3 ++ (R4 ++ (R5 ++ (OR ++ ([]))))))))))))) := br1.trans (br1)
  simpa only [List.append_assoc, List.nil_append, List.append_nil] using q
theorem pm_FNH {FE N T S HI R0 R1 R2 R3 R4 R5 OR : va_W} : List.Perm (FE ++ (N ++ (T ++ (S ++ (HI ++ (R0 ++ (R1 ++ (R2 ++ (R3 ++ (R4 ++ (R5 ++ (OR ++ ([]))))))))))))) ((FE ++ (N ++ (HI ++ ([])))) ++ (T ++ (S ++ (R0 ++ (R1 ++ (R2 ++ (R3 ++ (R4 ++ (R5 ++ (OR ++ ([]))))))))))) := by
  have q : List.Perm (FE ++ (N ++ (T ++ (S ++ (HI ++ (R0 ++ (R1 ++ (R2 ++ (R3 ++ (R4 ++ (R5 ++ (OR ++ ([]))))))))))))) (FE ++ (N ++ (HI ++ (T ++ (S ++ (R0 ++ (R1 ++ (R2 ++ (R3 ++ (R4 ++ (R5 ++ (OR ++ ([]))))))))))))) := br4.trans (br2.trans (br2))
  simpa only [List.append_assoc, List.nil_append, List.append_nil] using q
theorem pm_FNT {FE N T S HI R0 R1 R2 R3 R4 R5 OR : va_W} : List.Perm (FE ++ (N ++ (T ++ (S ++ (HI ++ (R0 ++ (R1 ++ (R2 ++ (R3 ++ (R4 ++ (R5 ++ (OR ++ ([]))))))))))))) ((FE ++ (N ++ (T ++ ([])))) ++ (S ++ (HI ++ (R0 ++ (R1 ++ (R2 ++ (R3 ++ (R4 ++ (R5 ++ (OR ++ ([]))))))))))) := by
  have q : List.Perm (FE ++ (N ++ (T ++ (S ++ (HI ++ (R0 ++ (R1 ++ (R2 ++ (R3 ++ (R4 ++ (R5 ++ (OR ++ ([]))))))))))))) (FE ++ (N ++ (T ++ (S ++ (HI ++ (R0 ++ (R1 ++ (R2 ++ (R3 ++ (R4 ++ (R5 ++ (OR ++ ([]))))))))))))) := br2.trans (br2.trans (br2))
  simpa only [List.append_assoc, List.nil_append, List.append_nil] using q
theorem pm_FNS {FE N T S HI R0 R1 R2 R3 R4 R5 OR : va_W} : List.Perm (FE ++ (N ++ (T ++ (S ++ (HI ++ (R0 ++ (R1 ++ (R2 ++ (R3 ++ (R4 ++ (R5 ++ (OR ++ ([]))))))))))))) ((FE ++ (N ++ (S ++ ([])))) ++ (T ++ (HI ++ (R0 ++ (R1 ++ (R2 ++ (R3 ++ (R4 ++ (R5 ++ (OR ++ ([]))))))))))) := by
  have q : List.Perm (FE ++ (N ++ (T ++ (S ++ (HI ++ (R0 ++ (R1 ++ (R2 ++ (R3 ++ (R4 ++ (R5 ++ (OR ++ ([]))))))))))))) (FE ++ (N ++ (S ++ (T ++ (HI ++ (R0 ++ (R1 ++ (R2 ++ (R3 ++ (R4 ++ (R5 ++ (OR ++ ([]))))))))))))) := br3.trans (br2.trans (br2))
  simpa only [List.append_assoc, List.nil_append, List.append_nil] using q
theorem pm_FNSH {FE N T S HI R0 R1 R2 R3 R4 R5 OR : va_W} : List.Perm (FE ++ (N ++ (T ++ (S ++ (HI ++ (R0 ++ (R1 ++ (R2 ++ (R3 ++ (R4 ++ (R5 ++ (OR ++ ([]))))))))))))) ((FE ++ (N ++ (S ++ (HI ++ (R0 ++ (R1 ++ (R2 ++ (R3 ++ (R4 ++ (R5 ++ ([]))))))))))) ++ (T ++ (OR ++ ([])))) := by
  have q : List.Perm (FE ++ (N ++ (T ++ (S ++ (HI ++ (R0 ++ (R1 ++ (R2 ++ (R3 ++ (R4 ++ (R5 ++ (OR ++ ([]))))))))))))) (FE ++ (N ++ (S ++ (HI ++ (R0 ++ (R1 ++ (R2 ++ (R3 ++ (R4 ++ (R5 ++ (T ++ (OR ++ ([]))))))))))))) := br10.trans (br10.trans (br10.trans (br10.trans (br10.trans (br10.trans (br10.trans (br10.trans (br9.trans (br9)))))))))
  simpa only [List.append_assoc, List.nil_append, List.append_nil] using q
theorem pm_OBY {FE N T S HI R0 R1 R2 R3 R4 R5 OR : va_W} : List.Perm (FE ++ (N ++ (T ++ (S ++ (HI ++ (R0 ++ (R1 ++ (R2 ++ (R3 ++ (R4 ++ (R5 ++ (OR ++ ([]))))))))))))) ((FE ++ (N ++ (HI ++ (R0 ++ (R1 ++ (R2 ++ (R3 ++ (R4 ++ (R5 ++ (OR ++ ([]))))))))))) ++ (T ++ (S ++ ([])))) := by
  have q : List.Perm (FE ++ (N ++ (T ++ (S ++ (HI ++ (R0 ++ (R1 ++ (R2 ++ (R3 ++ (R4 ++ (R5 ++ (OR ++ ([]))))))))))))) (FE ++ (N ++ (HI ++ (R0 ++ (R1 ++ (R2 ++ (R3 ++ (R4 ++ (R5 ++ (OR ++ (T ++ (S ++ ([]))))))))))))) := br11.trans (br11.trans (br11.trans (br11.trans (br11.trans (br11.trans (br11.trans (br11.trans (br9.trans (br9)))))))))
  simpa only [List.append_assoc, List.nil_append, List.append_nil] using q
theorem pm_DIG {FE N T S HI R0 R1 R2 R3 R4 R5 OR : va_W} : List.Perm (FE ++ (N ++ (T ++ (S ++ (HI ++ (R0 ++ (R1 ++ (R2 ++ (R3 ++ (R4 ++ (R5 ++ (OR ++ ([]))))))))))))) ((FE ++ (N ++ (T ++ (HI ++ (OR ++ ([])))))) ++ (S ++ (R0 ++ (R1 ++ (R2 ++ (R3 ++ (R4 ++ (R5 ++ ([]))))))))) := by
  have q : List.Perm (FE ++ (N ++ (T ++ (S ++ (HI ++ (R0 ++ (R1 ++ (R2 ++ (R3 ++ (R4 ++ (R5 ++ (OR ++ ([]))))))))))))) (FE ++ (N ++ (T ++ (HI ++ (OR ++ (S ++ (R0 ++ (R1 ++ (R2 ++ (R3 ++ (R4 ++ (R5 ++ ([]))))))))))))) := br11.trans (br5.trans (br4.trans (br4.trans (br4))))
  simpa only [List.append_assoc, List.nil_append, List.append_nil] using q
theorem pm_F {FE N T S HI R0 R1 R2 R3 R4 R5 OR : va_W} : List.Perm (FE ++ (N ++ (T ++ (S ++ (HI ++ (R0 ++ (R1 ++ (R2 ++ (R3 ++ (R4 ++ (R5 ++ (OR ++ ([]))))))))))))) ((FE ++ ([])) ++ (N ++ (T ++ (S ++ (HI ++ (R0 ++ (R1 ++ (R2 ++ (R3 ++ (R4 ++ (R5 ++ (OR ++ ([]))))))))))))) := by
  have q : List.Perm (FE ++ (N ++ (T ++ (S ++ (HI ++ (R0 ++ (R1 ++ (R2 ++ (R3 ++ (R4 ++ (R5 ++ (OR ++ ([]))))))))))))) (FE ++ (N ++ (T ++ (S ++ (HI ++ (R0 ++ (R1 ++ (R2 ++ (R3 ++ (R4 ++ (R5 ++ (OR ++ ([]))))))))))))) := (List.Perm.refl _)
  simpa only [List.append_assoc, List.nil_append, List.append_nil] using q
theorem pm_FH {FE N T S HI R0 R1 R2 R3 R4 R5 OR : va_W} : List.Perm (FE ++ (N ++ (T ++ (S ++ (HI ++ (R0 ++ (R1 ++ (R2 ++ (R3 ++ (R4 ++ (R5 ++ (OR ++ ([]))))))))))))) ((FE ++ (HI ++ ([]))) ++ (N ++ (T ++ (S ++ (R0 ++ (R1 ++ (R2 ++ (R3 ++ (R4 ++ (R5 ++ (OR ++ ([])))))))))))) := by
  have q : List.Perm (FE ++ (N ++ (T ++ (S ++ (HI ++ (R0 ++ (R1 ++ (R2 ++ (R3 ++ (R4 ++ (R5 ++ (OR ++ ([]))))))))))))) (FE ++ (HI ++ (N ++ (T ++ (S ++ (R0 ++ (R1 ++ (R2 ++ (R3 ++ (R4 ++ (R5 ++ (OR ++ ([]))))))))))))) := br4.trans (br1)
  simpa only [List.append_assoc, List.nil_append, List.append_nil] using q
/-- the class's cells, by what they say -/
def XS (G : eG) (fe : Nat) (f sf : Nat → Int32) (ff : Nat → Nat → Int32) (old sz len : Nat) (tx : Nat → Int32) (hsn : Int32) (W : va_W) : Prop := ∃ (an tn sn : Nat → Nat) (v0 v1 : Int32) (w : Nat → Nat → Int32) (tf : Nat → Int32) (tv0 tv1 : Int32) (tw : Nat → Nat → Int32) (sv0 sv1 : Int32) (sw : Nat → Nat → Int32) (ha sv : Nat) (ad : Nat → Nat) (aa : Nat → Nat → Nat) (vv0 vv1 : Nat → Int32) (ww : Nat → Nat → Nat → Int32) (oa co : Nat), W = ([(fe, .inr (5, [.ref (an 0), .ref (tn 0), .ref (sn 0), .ref ha, .ref oa, .int hsn]))] ++ (cST G an f v0 v1 w ++ (cST G tn tf tv0 tv1 tw ++ (cST G sn sf sv0 sv1 sw ++ (cHI G ha sv old sz ad ++ (cST G (aa 0) (ff 0) (vv0 0) (vv1 0) (ww 0) ++ (cST G (aa 1) (ff 1) (vv0 1) (vv1 1) (ww 1) ++ (cST G (aa 2) (ff 2) (vv0 2) (vv1 2) (ww 2) ++ (cST G (aa 3) (ff 3) (vv0 3) (vv1 3) (ww 3) ++ (cST G (aa 4) (ff 4) (vv0 4) (vv1 4) (ww 4) ++ (cST G (aa 5) (ff 5) (vv0 5) (vv1 5) (ww 5) ++ ([(oa, .inr (2, [.ref co, .int (nI len), .int (nI (rR (nn tx) len)), .int (ov (eR (nn tx) len))])), (co, .inl (G.2.1, 60, .inl tx))] ++ ([]))))))))))))) ∧ CplW f w ∧ Shp tf ∧ CplW sf sw ∧ (∀ k, k < 6 → CplW (ff k) (ww k)) ∧ (∀ k, k < 6 → ad k = aa k 0)
/-- the reference's cells, by what they say -/
def RS (G : eG) (ob : Nat) (f sf : Nat → Int32) (ff : Nat → Nat → Int32) (old sz len : Nat) (tx : Nat → Int32) (hsn : Int32) (thr : Int32) (M : va_W) : Prop := ∃ (a1 a2 a3 a4 a5 : Nat) (th pa sn : Nat → Int32) (spot : Nat) (bad lt one two wh : Int32) (hash : Int64), M = [(ob, .inr (6, [.ref a1, .ref a2, .ref a3, .int (nI sz), .ref a4, .int hsn, .ref a5, .int (nI len), .int thr, .int (nI spot), .int bad, .int lt, .int one, .int two, .int wh, .long hash])), (a1, .inl (G.2.1, 97, .inl f)), (a2, .inl (G.2.1, 97, .inl th)), (a3, .inl (G.2.1, 582, .inl pa)), (a4, .inl (G.2.1, 97, .inl sn)), (a5, .inl (G.2.1, 60, .inl tx))] ∧ (hsn = nI 1 → ∀ k, k < 97 → sn k = sf k) ∧ (∀ j, j < sz → ∀ i, i < 97 → blk pa j i = ff ((old + j) % 6) i)
/-- what holds of both -/
def PR (B : Nat) (f sf : Nat → Int32) (ff : Nat → Nat → Int32) (old sz len : Nat) (tx : Nat → Int32) (hsn : Int32) : Prop := Okf B f ∧ Okf B sf ∧ (∀ k, k < 6 → Okf B (ff k)) ∧ old < 6 ∧ sz ≤ 6 ∧ Tx tx len ∧ (hsn = nI 0 ∨ hsn = nI 1)
theorem liftG {l : Launch} {y : MethodName} {ws : List Cond} {rm : Room} {Pc Pc' : Array Value → State → Prop} {Qc Qc' : Array Value → State → Outcome → State → Prop} {mc ms : Nat} {free free' : Addr → Prop} (h : Met l y ws rm Pc Qc mc ms free) (hp : ∀ a s, Pc' a s → Pc a s) (hq : ∀ a st o t, Pc' a st → Qc a st o t → Qc' a st o t) (hf : ∀ q, free q → free' q) : Met l y ws rm Pc' Qc' mc ms free' := by
  intro p e ha hc hk s m args below h9 happ hP hK
  obtain ⟨n, o, h1, h2, h3, h4, L, h5, h6⟩ := h p e ha hc hk s m args below h9 happ (hp _ _ hP) hK
  exact ⟨n, o, h1, h2, h3, hq _ _ _ _ hP h4, L, h5, fun q hq => hf _ (h6 q hq)⟩
theorem liftM {l : Launch} {y : MethodName} {ws : List Cond} {rm : Room} {Pc : Array Value → State → Prop} {G : eG} {As : List Value} {v : Option Value} {W W0 r : va_W} {B0 : Heap → Prop} {X : va_W → Prop} {mc ms : Nat} (h : Met l y ws rm Pc (MV v B0 (inW W0)) mc ms (inW W0)) (hp : ∀ a s, PJ As G (fun H => va_P G.1 vwCl W0 H ∧ va_D (fun _ => True) W0) a s → Pc a s) (pm : List.Perm W (W0 ++ r))
    (hB : ∀ H, B0 H → ∃ W1 W', va_P G.1 vwCl W1 H ∧ va_D (inW W0) W1 ∧ List.Perm (W1 ++ r) W' ∧ X W') : Met l y ws rm (PJ As G (fun H => va_P G.1 vwCl W H ∧ va_D (fun _ => True) W)) (MV v (fun H => ∃ W', X W' ∧ va_P G.1 vwCl W' H ∧ va_D (inW W) W') (inW W)) mc ms (inW W) := by
  refine liftG h (fun a s h9 => hp a s ⟨h9.1, h9.2.1, h9.2.2.1, P_pre (P_perm pm h9.2.2.2.1), D_pre (D_perm pm h9.2.2.2.2)⟩) (fun a st o t h9 hq => ?_) (fun q hq => ?_)
  · obtain ⟨-, -, -, hP, hD⟩ := h9
    obtain ⟨ho, hb, hz, hk⟩ := hq
    obtain ⟨W1, W', hP1, hD1, pm1, hX⟩ := hB _ hb
    obtain ⟨hP2, hD2⟩ := jnF (P_perm pm hP) (D_perm pm (D_self hD)) hk hP1 hD1
    refine ⟨ho, ⟨W', hX, P_perm pm1 hP2, D_perm pm1 hD2⟩, hz, fun q h1 h2 => hk q h1 fun h3 => h2 ?_⟩
    rw [inW_m] at h3 ⊢
    exact (pm.map Prod.fst).mem_iff.mpr (by rw [List.map_append]; exact List.mem_append_left _ h3)
  · rw [inW_m] at hq ⊢
    exact (pm.map Prod.fst).mem_iff.mpr (by rw [List.map_append]; exact List.mem_append_left _ hq)
theorem liftP {l : Launch} {y : MethodName} {ws : List Cond} {rm : Room} {G : eG} {As : List Value} {v : Option Value} {W W0 r : va_W} {X : va_W → Prop} (h : Met l y ws rm (PC As G (fun H => va_P G.1 vwCl W0 H)) (PQ v) 0 0 noA) (pm : List.Perm W (W0 ++ r)) (hX : X W) : Met l y ws rm (PJ As G (fun H => va_P G.1 vwCl W H ∧ va_D (fun _ => True) W)) (MV v (fun H => ∃ W', X W' ∧ va_P G.1 vwCl W' H ∧ va_D (inW W) W') (inW W)) 0 0 (inW W) := by
  refine liftG h (fun a s h9 => ⟨h9.1, h9.2.1, P_pre (P_perm pm h9.2.2.2.1)⟩) (fun a st o t h9 hq => ?_) (fun q hq => (hq : False).elim)
  obtain ⟨-, -, -, hP, hD⟩ := h9
  exact ⟨hq.1, ⟨W, hX, by rw [hq.2]; exact hP, D_self hD⟩, by rw [hq.2]; exact Nat.le_refl _, fun q _ _ => by rw [hq.2]⟩
theorem liftN {l : Launch} {y : MethodName} {ws : List Cond} {rm : Room} {Pc : Array Value → State → Prop} {G : eG} {As : List Value} {v : Option Value} {M : va_W} {B0 : Heap → Prop} {X : va_W → Prop} (h : Met l y ws rm Pc (MV v B0 (inW M)) 0 0 (inW M)) (hp : ∀ a s, PJ As G (fun H => va_P G.1 vwCl M H ∧ va_D (fun _ => True) M) a s → Pc a s)
    (hB : ∀ H, B0 H → ∃ M', va_P G.1 vwCl M' H ∧ va_D (inW M) M' ∧ X M') : Met l y ws rm (PJ As G (fun H => va_P G.1 vwCl M H ∧ va_D (fun _ => True) M)) (MV v (fun H => ∃ W', X W' ∧ va_P G.1 vwCl W' H ∧ va_D (inW M) W') (inW M)) 0 0 (inW M) :=
  liftG h hp (fun a st o t _ hq => ⟨hq.1, by obtain ⟨M', h1, h2, h3⟩ := hB _ hq.2.1; exact ⟨M', h3, h1, h2⟩, hq.2.2⟩) (fun q hq => hq)
theorem rg_cpl {ff : Nat → Nat → Int32} {ww : Nat → Nat → Nat → Int32} {i : Nat} {f : Nat → Int32} {w : Nat → Nat → Int32} (h : ∀ k, k < 6 → CplW (ff k) (ww k)) (hc : CplW f w) : ∀ k, k < 6 → CplW (rgS ff i f k) (rgS ww i w k) := by
  intro k hk
  unfold rgS
  by_cases e : k = i
  · rw [if_pos e, if_pos e]; exact hc
  · rw [if_neg e, if_neg e]; exact h k hk
theorem rg_okf {B : Nat} {ff : Nat → Nat → Int32} {i : Nat} {f : Nat → Int32} (h : ∀ k, k < 6 → Okf B (ff k)) (hc : Okf B f) : ∀ k, k < 6 → Okf B (rgS ff i f k) := by
  intro k hk
  unfold rgS
  by_cases e : k = i
  · rw [if_pos e]; exact hc
  · rw [if_neg e]; exact h k hk
theorem sv9_y {n : Nat} (h : n = 6) : svN n = 5 := if_pos h
theorem sv9_n {n : Nat} (h : ¬ n = 6) : svN n = n := if_neg h
/-- a save, in the ring and in the row of six -/
theorem sav_rel {f : Nat → Int32} {pa : Nat → Int32} {ff : Nat → Nat → Int32} {old sz : Nat} (ho : old < 6) (hz : sz ≤ 6) (h : ∀ j, j < sz → ∀ i, i < 97 → blk pa j i = ff ((old + j) % 6) i) : ∀ j, j < svM sz → ∀ i, i < 97 → blk (svQ f sz pa) j i = rgS ff (hAt old sz) f ((hOld old sz + j) % 6) i := by
  intro j hj i hi
  show svQ f sz pa (97 * j + i) = _
  unfold svQ rgS hAt
  unfold svM at hj
  by_cases h6 : sz = 6
  · subst h6
    rw [sv9_y rfl] at hj ⊢
    rw [hOld_6 rfl]
    by_cases e : j = 5
    · subst e
      rw [if_pos rfl, pk_cpy_in (by omega) (by omega)]
      exact congrArg f (by omega)
    · have e1 : ¬ ((old + 1) % 6 + j) % 6 = ((old + 1) % 6 + 5) % 6 := by omega
      rw [if_neg e1, pk_cpy_out (Or.inl (by omega))]
      show svP 6 pa (97 * j + i) = _
      unfold svP
      rw [if_pos rfl, pk_cpy_in (by omega) (by omega), show 97 + (97 * j + i - 0) = 97 * (j + 1) + i by omega, show ((old + 1) % 6 + j) % 6 = (old + (j + 1)) % 6 by omega]
      exact h (j + 1) (by omega) i hi
  · rw [sv9_n h6] at hj ⊢
    rw [hOld_n h6]
    by_cases e : j = sz
    · subst e
      rw [if_pos rfl, pk_cpy_in (by omega) (by omega)]
      exact congrArg f (by omega)
    · have e1 : ¬ (old + j) % 6 = (old + sz) % 6 := by omega
      rw [if_neg e1, pk_cpy_out (Or.inl (by omega))]
      show svP sz pa (97 * j + i) = _
      unfold svP
      rw [if_neg h6]
      exact h j (by omega) i hi
