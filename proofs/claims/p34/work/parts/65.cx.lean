/-! the buffer's two numbers, by the text alone -/
theorem eR_ok {tx : Nat → Int32} {n : Nat} (_ : Tx tx n) : eOk (eR (nn tx) n) := by
  cases n with
  | zero => intro v hv; cases hv; exact Nat.zero_le _
  | succ n => exact eOk_F
theorem rR_le (t : Nat → Nat) (n : Nat) : rR t n ≤ n := by
  induction n with
  | zero => exact Nat.le_refl _
  | succ n ih =>
    show rtN (rR t n) (eR t (n + 1)) ≤ n + 1
    unfold rtN
    split <;> omega
theorem eR_c {t t' : Nat → Nat} {n : Nat} (h : ∀ j, j < n → t j = t' j) : eR t n = eR t' n := by
  induction n with
  | zero => rfl
  | succ n ih => show ebF (eR t n) (t n) = ebF (eR t' n) (t' n); rw [ih (fun j hj => h j (by omega)), h n (by omega)]
theorem rR_c {t t' : Nat → Nat} {n : Nat} (h : ∀ j, j < n → t j = t' j) : rR t n = rR t' n := by
  induction n with
  | zero => rfl
  | succ n ih => show rtN (rR t n) (eR t (n + 1)) = rtN (rR t' n) (eR t' (n + 1)); rw [ih (fun j hj => h j (by omega)), eR_c h]
theorem nn_app {tx : Nat → Int32} {n q : Nat} (h2 : q ≤ 126) : (∀ j, j < n → nn (upd tx n (nI q)) j = nn tx j) ∧ nn (upd tx n (nI q)) n = q := ⟨fun j hj => nn_c (pk_un (by omega)), nn_v pk_us (by omega)⟩
theorem eR_app {tx : Nat → Int32} {n q : Nat} (_ : Tx tx n) (_ : n < 60) (h2 : q ≤ 126) : eR (nn (upd tx n (nI q))) (n + 1) = ebF (eR (nn tx) n) q := by
  show ebF (eR (nn (upd tx n (nI q))) n) (nn (upd tx n (nI q)) n) = _
  rw [eR_c (nn_app h2).1, (nn_app h2).2]
theorem rR_app {tx : Nat → Int32} {n q : Nat} (h : Tx tx n) (h6 : n < 60) (h2 : q ≤ 126) : rR (nn (upd tx n (nI q))) (n + 1) = rtN (rR (nn tx) n) (ebF (eR (nn tx) n) q) := by
  show rtN (rR (nn (upd tx n (nI q))) n) (eR (nn (upd tx n (nI q))) (n + 1)) = _
  rw [rR_c (nn_app h2).1, eR_app h h6 h2]
set_option maxHeartbeats 4000000 in
set_option maxRecDepth 100000 in
theorem CX_current_ok (l : Launch) (G : eG) {fe B : Nat} {f sf : Nat → Int32} {ff : Nat → Nat → Int32} {old sz len : Nat} {tx : Nat → Int32} {hsn : Int32} {W : va_W} (hX : XS G fe f sf ff old sz len tx hsn W) (hR : PR B f sf ff old sz len tx hsn) (hB : B < 700000000) (h : Nat) (q : Nat) (hh : h < 24) (hq : q ≤ 40) : Met l yX5_current wsX5_current ({ frames := 5, cells := 0, slots := 0, locals := 125 }) (PJ [.ref fe, .int (nI h), .int (nI q)] G (fun H => va_P G.1 vwCl W H ∧ va_D (fun _ => True) W)) (MV (some (.int (f (3 + h)))) (fun H => ∃ W', XS G fe (upd f (3 + h) (nI q)) sf (rgS ff (hAt old sz) f) (hOld old sz) (svM sz) len tx hsn W' ∧ va_P G.1 vwCl W' H ∧ va_D (inW W) W') (inW W)) 0 0 (inW W) := by
  obtain ⟨an, tn, sn, v0, v1, w, tf, tv0, tv1, tw, sv0, sv1, sw, ha, sv, ad, aa, vv0, vv1, ww, oa, co, rfl, hcp, hst, hcs, hcf, had⟩ := hX
  obtain ⟨ho, hos, hof, hold, hz, htx, hk01⟩ := hR
  have hs := okf_shp (by omega) ho
  have hsS := okf_shp (by omega) hos
  have hrg : ∀ k, k < 6 → Shp (ff k) := fun k hk => okf_shp (by omega) (hof k hk)
  have heok := eR_ok htx
  have hrt := rR_le (nn tx) len
  refine liftM (c_X5_current_ok l G fe (tn 0) (sn 0) ha oa hsn an f v0 v1 w sv old sz ad aa ff vv0 vv1 ww hs hcp hrg had hold hz h q hh hq) (fun a s h => ⟨h.1, h.2.1, h.2.2.2⟩) pm_SAV (fun H hb => ?_)
  obtain ⟨v0', v1', w', hcw, hP1, hD1⟩ := hb
  exact ⟨_, _, hP1, hD1, pm_SAV.symm, ⟨an, tn, sn, v0', v1', w', tf, tv0, tv1, tw, sv0, sv1, sw, ha, sv, ad, aa, (rgS vv0 (hAt old sz) v0), (rgS vv1 (hAt old sz) v1), (rgS ww (hAt old sz) w), oa, co, rfl, hcw, hst, hcs, (rg_cpl hcf hcp), had⟩⟩

set_option maxHeartbeats 4000000 in
set_option maxRecDepth 100000 in
theorem CX_arrive_ok (l : Launch) (G : eG) {fe B : Nat} {f sf : Nat → Int32} {ff : Nat → Nat → Int32} {old sz len : Nat} {tx : Nat → Int32} {hsn : Int32} {W : va_W} (hX : XS G fe f sf ff old sz len tx hsn W) (hR : PR B f sf ff old sz len tx hsn) (hB : B < 700000000) (b : Nat) (y : Nat) (hb2 : b < 2) (hy1 : 1 ≤ y) (hy : y ≤ 20) (hq : nn f (57 + 11 * b) < 10) : Met l yX5_arrive wsX5_arrive ({ frames := 5, cells := 0, slots := 0, locals := 125 }) (PJ [.ref fe, .int (nI b), .int (nI y)] G (fun H => va_P G.1 vwCl W H ∧ va_D (fun _ => True) W)) (MV (some (.int (f (57 + (11 * b)) + nI 1))) (fun H => ∃ W', XS G fe (fArr f b (nI y)) sf (rgS ff (hAt old sz) f) (hOld old sz) (svM sz) len tx hsn W' ∧ va_P G.1 vwCl W' H ∧ va_D (inW W) W') (inW W)) 0 0 (inW W) := by
  obtain ⟨an, tn, sn, v0, v1, w, tf, tv0, tv1, tw, sv0, sv1, sw, ha, sv, ad, aa, vv0, vv1, ww, oa, co, rfl, hcp, hst, hcs, hcf, had⟩ := hX
  obtain ⟨ho, hos, hof, hold, hz, htx, hk01⟩ := hR
  have hs := okf_shp (by omega) ho
  have hsS := okf_shp (by omega) hos
  have hrg : ∀ k, k < 6 → Shp (ff k) := fun k hk => okf_shp (by omega) (hof k hk)
  have heok := eR_ok htx
  have hrt := rR_le (nn tx) len
  refine liftM (c_X5_arrive_ok l G fe (tn 0) (sn 0) ha oa hsn an f v0 v1 w sv old sz ad aa ff vv0 vv1 ww hs hcp hrg had hold hz b y hb2 hy1 hy hq) (fun a s h => ⟨h.1, h.2.1, h.2.2.2⟩) pm_SAV (fun H hb => ?_)
  obtain ⟨v0', v1', w', hcw, hP1, hD1⟩ := hb
  exact ⟨_, _, hP1, hD1, pm_SAV.symm, ⟨an, tn, sn, v0', v1', w', tf, tv0, tv1, tw, sv0, sv1, sw, ha, sv, ad, aa, (rgS vv0 (hAt old sz) v0), (rgS vv1 (hAt old sz) v1), (rgS ww (hAt old sz) w), oa, co, rfl, hcw, hst, hcs, (rg_cpl hcf hcp), had⟩⟩

set_option maxHeartbeats 4000000 in
set_option maxRecDepth 100000 in
theorem CX_load_ok (l : Launch) (G : eG) {fe B : Nat} {f sf : Nat → Int32} {ff : Nat → Nat → Int32} {old sz len : Nat} {tx : Nat → Int32} {hsn : Int32} {W : va_W} (hX : XS G fe f sf ff old sz len tx hsn W) (hR : PR B f sf ff old sz len tx hsn) (hB : B < 700000000) (q : Nat) (hq : q < 2) (hcan : fCan f q = true) : Met l yX5_load wsX5_load ({ frames := 5, cells := 0, slots := 0, locals := 125 }) (PJ [.ref fe, .int (nI q)] G (fun H => va_P G.1 vwCl W H ∧ va_D (fun _ => True) W)) (MV (some (.int (f (fAt f + 1)))) (fun H => ∃ W', XS G fe (fLod f q) sf (rgS ff (hAt old sz) f) (hOld old sz) (svM sz) len tx hsn W' ∧ va_P G.1 vwCl W' H ∧ va_D (inW W) W') (inW W)) 0 0 (inW W) := by
  obtain ⟨an, tn, sn, v0, v1, w, tf, tv0, tv1, tw, sv0, sv1, sw, ha, sv, ad, aa, vv0, vv1, ww, oa, co, rfl, hcp, hst, hcs, hcf, had⟩ := hX
  obtain ⟨ho, hos, hof, hold, hz, htx, hk01⟩ := hR
  have hs := okf_shp (by omega) ho
  have hsS := okf_shp (by omega) hos
  have hrg : ∀ k, k < 6 → Shp (ff k) := fun k hk => okf_shp (by omega) (hof k hk)
  have heok := eR_ok htx
  have hrt := rR_le (nn tx) len
  refine liftM (c_X5_load_ok l G fe (tn 0) (sn 0) ha oa hsn an f v0 v1 w sv old sz ad aa ff vv0 vv1 ww hs hcp hrg had hold hz q hq hcan) (fun a s h => ⟨h.1, h.2.1, h.2.2.2⟩) pm_SAV (fun H hb => ?_)
  obtain ⟨v0', v1', w', hcw, hP1, hD1⟩ := hb
  exact ⟨_, _, hP1, hD1, pm_SAV.symm, ⟨an, tn, sn, v0', v1', w', tf, tv0, tv1, tw, sv0, sv1, sw, ha, sv, ad, aa, (rgS vv0 (hAt old sz) v0), (rgS vv1 (hAt old sz) v1), (rgS ww (hAt old sz) w), oa, co, rfl, hcw, hst, hcs, (rg_cpl hcf hcp), had⟩⟩

set_option maxHeartbeats 4000000 in
set_option maxRecDepth 100000 in
theorem CX_unload_ok (l : Launch) (G : eG) {fe B : Nat} {f sf : Nat → Int32} {ff : Nat → Nat → Int32} {old sz len : Nat} {tx : Nat → Int32} {hsn : Int32} {W : va_W} (hX : XS G fe f sf ff old sz len tx hsn W) (hR : PR B f sf ff old sz len tx hsn) (hB : B < 700000000) : Met l yX5_unload wsX5_unload ({ frames := 5, cells := 0, slots := 0, locals := 125 }) (PJ [.ref fe] G (fun H => va_P G.1 vwCl W H ∧ va_D (fun _ => True) W)) (MV (some (.int (unC f))) (fun H => ∃ W', XS G fe (fUnl f) sf (rgS ff (hAt old sz) f) (hOld old sz) (svM sz) len tx hsn W' ∧ va_P G.1 vwCl W' H ∧ va_D (inW W) W') (inW W)) 0 0 (inW W) := by
  obtain ⟨an, tn, sn, v0, v1, w, tf, tv0, tv1, tw, sv0, sv1, sw, ha, sv, ad, aa, vv0, vv1, ww, oa, co, rfl, hcp, hst, hcs, hcf, had⟩ := hX
  obtain ⟨ho, hos, hof, hold, hz, htx, hk01⟩ := hR
  have hs := okf_shp (by omega) ho
  have hsS := okf_shp (by omega) hos
  have hrg : ∀ k, k < 6 → Shp (ff k) := fun k hk => okf_shp (by omega) (hof k hk)
  have heok := eR_ok htx
  have hrt := rR_le (nn tx) len
  refine liftM (c_X5_unload_ok l G fe (tn 0) (sn 0) ha oa hsn an f v0 v1 w sv old sz ad aa ff vv0 vv1 ww hs hcp hrg had hold hz) (fun a s h => ⟨h.1, h.2.1, h.2.2.2⟩) pm_SAV (fun H hb => ?_)
  obtain ⟨v0', v1', w', hcw, hP1, hD1⟩ := hb
  exact ⟨_, _, hP1, hD1, pm_SAV.symm, ⟨an, tn, sn, v0', v1', w', tf, tv0, tv1, tw, sv0, sv1, sw, ha, sv, ad, aa, (rgS vv0 (hAt old sz) v0), (rgS vv1 (hAt old sz) v1), (rgS ww (hAt old sz) w), oa, co, rfl, hcw, hst, hcs, (rg_cpl hcf hcp), had⟩⟩

set_option maxHeartbeats 4000000 in
set_option maxRecDepth 100000 in
theorem CX_cross_ok (l : Launch) (G : eG) {fe B : Nat} {f sf : Nat → Int32} {ff : Nat → Nat → Int32} {old sz len : Nat} {tx : Nat → Int32} {hsn : Int32} {W : va_W} (hX : XS G fe f sf ff old sz len tx hsn W) (hR : PR B f sf ff old sz len tx hsn) (hB : B < 700000000) (hc : Cro f) (hr0 : fRsn f = 0) : Met l yX5_cross wsX5_cross ({ frames := 5, cells := 0, slots := 0, locals := 125 }) (PJ [.ref fe] G (fun H => va_P G.1 vwCl W H ∧ va_D (fun _ => True) W)) (MV (some (.int (nI (fHrs f)))) (fun H => ∃ W', XS G fe (fCrs f) sf (rgS ff (hAt old sz) f) (hOld old sz) (svM sz) len tx hsn W' ∧ va_P G.1 vwCl W' H ∧ va_D (inW W) W') (inW W)) 0 0 (inW W) := by
  obtain ⟨an, tn, sn, v0, v1, w, tf, tv0, tv1, tw, sv0, sv1, sw, ha, sv, ad, aa, vv0, vv1, ww, oa, co, rfl, hcp, hst, hcs, hcf, had⟩ := hX
  obtain ⟨ho, hos, hof, hold, hz, htx, hk01⟩ := hR
  have hs := okf_shp (by omega) ho
  have hsS := okf_shp (by omega) hos
  have hrg : ∀ k, k < 6 → Shp (ff k) := fun k hk => okf_shp (by omega) (hof k hk)
  have heok := eR_ok htx
  have hrt := rR_le (nn tx) len
  refine liftM (c_X5_cross_ok l G fe (tn 0) (sn 0) ha oa hsn an f v0 v1 w sv old sz ad aa ff vv0 vv1 ww hs hcp hrg had hold hz hc hr0) (fun a s h => ⟨h.1, h.2.1, h.2.2.2⟩) pm_SAV (fun H hb => ?_)
  obtain ⟨v0', v1', w', hcw, hP1, hD1⟩ := hb
  exact ⟨_, _, hP1, hD1, pm_SAV.symm, ⟨an, tn, sn, v0', v1', w', tf, tv0, tv1, tw, sv0, sv1, sw, ha, sv, ad, aa, (rgS vv0 (hAt old sz) v0), (rgS vv1 (hAt old sz) v1), (rgS ww (hAt old sz) w), oa, co, rfl, hcw, hst, hcs, (rg_cpl hcf hcp), had⟩⟩

set_option maxHeartbeats 4000000 in
set_option maxRecDepth 100000 in
theorem CX_pass_ok (l : Launch) (G : eG) {fe B : Nat} {f sf : Nat → Int32} {ff : Nat → Nat → Int32} {old sz len : Nat} {tx : Nat → Int32} {hsn : Int32} {W : va_W} (hX : XS G fe f sf ff old sz len tx hsn W) (hR : PR B f sf ff old sz len tx hsn) (hB : B < 700000000) (h : Nat) (h1 : 1 ≤ h) (h2 : h ≤ 100) : Met l yX5_pass wsX5_pass ({ frames := 5, cells := 0, slots := 0, locals := 125 }) (PJ [.ref fe, .int (nI h)] G (fun H => va_P G.1 vwCl W H ∧ va_D (fun _ => True) W)) (MV (some (.int (f 50 + nI h))) (fun H => ∃ W', XS G fe (fPas f (nI h)) sf (rgS ff (hAt old sz) f) (hOld old sz) (svM sz) len tx hsn W' ∧ va_P G.1 vwCl W' H ∧ va_D (inW W) W') (inW W)) 0 0 (inW W) := by
  obtain ⟨an, tn, sn, v0, v1, w, tf, tv0, tv1, tw, sv0, sv1, sw, ha, sv, ad, aa, vv0, vv1, ww, oa, co, rfl, hcp, hst, hcs, hcf, had⟩ := hX
  obtain ⟨ho, hos, hof, hold, hz, htx, hk01⟩ := hR
  have hs := okf_shp (by omega) ho
  have hsS := okf_shp (by omega) hos
  have hrg : ∀ k, k < 6 → Shp (ff k) := fun k hk => okf_shp (by omega) (hof k hk)
  have heok := eR_ok htx
  have hrt := rR_le (nn tx) len
  refine liftM (c_X5_pass_ok l G fe (tn 0) (sn 0) ha oa hsn an f v0 v1 w sv old sz ad aa ff vv0 vv1 ww hs hcp hrg had hold hz h h1 h2) (fun a s h => ⟨h.1, h.2.1, h.2.2.2⟩) pm_SAV (fun H hb => ?_)
  obtain ⟨v0', v1', w', hcw, hP1, hD1⟩ := hb
  exact ⟨_, _, hP1, hD1, pm_SAV.symm, ⟨an, tn, sn, v0', v1', w', tf, tv0, tv1, tw, sv0, sv1, sw, ha, sv, ad, aa, (rgS vv0 (hAt old sz) v0), (rgS vv1 (hAt old sz) v1), (rgS ww (hAt old sz) w), oa, co, rfl, hcw, hst, hcs, (rg_cpl hcf hcp), had⟩⟩

set_option maxHeartbeats 4000000 in
set_option maxRecDepth 100000 in
theorem CX_draw_ok (l : Launch) (G : eG) {fe B : Nat} {f sf : Nat → Int32} {ff : Nat → Nat → Int32} {old sz len : Nat} {tx : Nat → Int32} {hsn : Int32} {W : va_W} (hX : XS G fe f sf ff old sz len tx hsn W) (hR : PR B f sf ff old sz len tx hsn) (hB : B < 700000000) (hd : rg f 49 40) (d : Nat) (h1 : 1 ≤ d) (h2 : d ≤ 5) (h3 : d ≤ nn f 49) : Met l yX5_draw wsX5_draw ({ frames := 5, cells := 0, slots := 0, locals := 125 }) (PJ [.ref fe, .int (nI d)] G (fun H => va_P G.1 vwCl W H ∧ va_D (fun _ => True) W)) (MV (some (.int (f 49 - nI d))) (fun H => ∃ W', XS G fe (fDrw f d) sf (rgS ff (hAt old sz) f) (hOld old sz) (svM sz) len tx hsn W' ∧ va_P G.1 vwCl W' H ∧ va_D (inW W) W') (inW W)) 0 0 (inW W) := by
  obtain ⟨an, tn, sn, v0, v1, w, tf, tv0, tv1, tw, sv0, sv1, sw, ha, sv, ad, aa, vv0, vv1, ww, oa, co, rfl, hcp, hst, hcs, hcf, had⟩ := hX
  obtain ⟨ho, hos, hof, hold, hz, htx, hk01⟩ := hR
  have hs := okf_shp (by omega) ho
  have hsS := okf_shp (by omega) hos
  have hrg : ∀ k, k < 6 → Shp (ff k) := fun k hk => okf_shp (by omega) (hof k hk)
  have heok := eR_ok htx
  have hrt := rR_le (nn tx) len
  refine liftM (c_X5_draw_ok l G fe (tn 0) (sn 0) ha oa hsn an f v0 v1 w sv old sz ad aa ff vv0 vv1 ww hs hcp hrg had hold hz hd d h1 h2 h3) (fun a s h => ⟨h.1, h.2.1, h.2.2.2⟩) pm_SAV (fun H hb => ?_)
  obtain ⟨v0', v1', w', hcw, hP1, hD1⟩ := hb
  exact ⟨_, _, hP1, hD1, pm_SAV.symm, ⟨an, tn, sn, v0', v1', w', tf, tv0, tv1, tw, sv0, sv1, sw, ha, sv, ad, aa, (rgS vv0 (hAt old sz) v0), (rgS vv1 (hAt old sz) v1), (rgS ww (hAt old sz) w), oa, co, rfl, hcw, hst, hcs, (rg_cpl hcf hcp), had⟩⟩

set_option maxHeartbeats 4000000 in
set_option maxRecDepth 100000 in
theorem CX_set_ok (l : Launch) (G : eG) {fe B : Nat} {f sf : Nat → Int32} {ff : Nat → Nat → Int32} {old sz len : Nat} {tx : Nat → Int32} {hsn : Int32} {W : va_W} (hX : XS G fe f sf ff old sz len tx hsn W) (hR : PR B f sf ff old sz len tx hsn) (hB : B < 700000000) (s0 : Nat) (v : Nat) (hs3 : s0 < 3) (h1 : stLo s0 ≤ v) (h2 : v ≤ stHi s0) : Met l yX5_set wsX5_set ({ frames := 5, cells := 0, slots := 0, locals := 125 }) (PJ [.ref fe, .int (nI s0), .int (nI v)] G (fun H => va_P G.1 vwCl W H ∧ va_D (fun _ => True) W)) (MV (some (.int (f s0))) (fun H => ∃ W', XS G fe (upd f s0 (nI v)) sf (rgS ff (hAt old sz) f) (hOld old sz) (svM sz) len tx hsn W' ∧ va_P G.1 vwCl W' H ∧ va_D (inW W) W') (inW W)) 0 0 (inW W) := by
  obtain ⟨an, tn, sn, v0, v1, w, tf, tv0, tv1, tw, sv0, sv1, sw, ha, sv, ad, aa, vv0, vv1, ww, oa, co, rfl, hcp, hst, hcs, hcf, had⟩ := hX
  obtain ⟨ho, hos, hof, hold, hz, htx, hk01⟩ := hR
  have hs := okf_shp (by omega) ho
  have hsS := okf_shp (by omega) hos
  have hrg : ∀ k, k < 6 → Shp (ff k) := fun k hk => okf_shp (by omega) (hof k hk)
  have heok := eR_ok htx
  have hrt := rR_le (nn tx) len
  refine liftM (c_X5_set_ok l G fe (tn 0) (sn 0) ha oa hsn an f v0 v1 w sv old sz ad aa ff vv0 vv1 ww hs hcp hrg had hold hz s0 v hs3 h1 h2) (fun a s h => h) pm_SAV (fun H hb => ?_)
  obtain ⟨v0', v1', w', hcw, hP1, hD1⟩ := hb
  exact ⟨_, _, hP1, hD1, pm_SAV.symm, ⟨an, tn, sn, v0', v1', w', tf, tv0, tv1, tw, sv0, sv1, sw, ha, sv, ad, aa, (rgS vv0 (hAt old sz) v0), (rgS vv1 (hAt old sz) v1), (rgS ww (hAt old sz) w), oa, co, rfl, hcw, hst, hcs, (rg_cpl hcf hcp), had⟩⟩

set_option maxHeartbeats 4000000 in
set_option maxRecDepth 100000 in
theorem CX_append_ok (l : Launch) (G : eG) {fe B : Nat} {f sf : Nat → Int32} {ff : Nat → Nat → Int32} {old sz len : Nat} {tx : Nat → Int32} {hsn : Int32} {W : va_W} (hX : XS G fe f sf ff old sz len tx hsn W) (hR : PR B f sf ff old sz len tx hsn) (hB : B < 700000000) (hln : len < 60) (q : Nat) (h1 : 33 ≤ q) (h2 : q ≤ 126) : Met l yX5_append wsX5_append ({ frames := 4, cells := 0, slots := 0, locals := 85 }) (PJ [.ref fe, .int (nI q)] G (fun H => va_P G.1 vwCl W H ∧ va_D (fun _ => True) W)) (MV (some (.int (nI (len + 1)))) (fun H => ∃ W', XS G fe f sf ff old sz (len + 1) (upd tx len (nI q)) hsn W' ∧ va_P G.1 vwCl W' H ∧ va_D (inW W) W') (inW W)) 0 0 (inW W) := by
  obtain ⟨an, tn, sn, v0, v1, w, tf, tv0, tv1, tw, sv0, sv1, sw, ha, sv, ad, aa, vv0, vv1, ww, oa, co, rfl, hcp, hst, hcs, hcf, had⟩ := hX
  obtain ⟨ho, hos, hof, hold, hz, htx, hk01⟩ := hR
  have hs := okf_shp (by omega) ho
  have hsS := okf_shp (by omega) hos
  have hrg : ∀ k, k < 6 → Shp (ff k) := fun k hk => okf_shp (by omega) (hof k hk)
  have heok := eR_ok htx
  have hrt := rR_le (nn tx) len
  refine liftM (c_X5_append_ok l G fe (tn 0) (sn 0) ha hsn an oa co len (rR (nn tx) len) (eR (nn tx) len) tx heok hln hrt q h1 h2) (fun a s h => ⟨h.1, h.2.1, h.2.2.2⟩) pm_FO (fun H hb => ?_)
  obtain ⟨hP1, hD1⟩ := hb
  rw [← rR_app htx hln h2, ← eR_app htx hln h2] at hP1 hD1
  exact ⟨_, _, hP1, hD1, pm_FO.symm, ⟨an, tn, sn, v0, v1, w, tf, tv0, tv1, tw, sv0, sv1, sw, ha, sv, ad, aa, vv0, vv1, ww, oa, co, rfl, hcp, hst, hcs, hcf, had⟩⟩

set_option maxHeartbeats 4000000 in
set_option maxRecDepth 100000 in
theorem CX_clearBuffer (l : Launch) (G : eG) {fe B : Nat} {f sf : Nat → Int32} {ff : Nat → Nat → Int32} {old sz len : Nat} {tx : Nat → Int32} {hsn : Int32} {W : va_W} (hX : XS G fe f sf ff old sz len tx hsn W) (hR : PR B f sf ff old sz len tx hsn) (hB : B < 700000000) : Met l yX5_clearBuffer wsX5_clearBuffer ({ frames := 1, cells := 0, slots := 0, locals := 20 }) (PJ [.ref fe] G (fun H => va_P G.1 vwCl W H ∧ va_D (fun _ => True) W)) (MV (some (.int (nI len))) (fun H => ∃ W', XS G fe f sf ff old sz 0 tx hsn W' ∧ va_P G.1 vwCl W' H ∧ va_D (inW W) W') (inW W)) 0 0 (inW W) := by
  obtain ⟨an, tn, sn, v0, v1, w, tf, tv0, tv1, tw, sv0, sv1, sw, ha, sv, ad, aa, vv0, vv1, ww, oa, co, rfl, hcp, hst, hcs, hcf, had⟩ := hX
  obtain ⟨ho, hos, hof, hold, hz, htx, hk01⟩ := hR
  have hs := okf_shp (by omega) ho
  have hsS := okf_shp (by omega) hos
  have hrg : ∀ k, k < 6 → Shp (ff k) := fun k hk => okf_shp (by omega) (hof k hk)
  have heok := eR_ok htx
  have hrt := rR_le (nn tx) len
  refine liftM (c_X5_clearBuffer l G fe (tn 0) (sn 0) ha hsn an oa co len (rR (nn tx) len) (eR (nn tx) len) tx) (fun a s h => ⟨h.1, h.2.1, h.2.2.2⟩) pm_FO (fun H hb => ?_)
  obtain ⟨hP1, hD1⟩ := hb
  exact ⟨_, _, hP1, hD1, pm_FO.symm, ⟨an, tn, sn, v0, v1, w, tf, tv0, tv1, tw, sv0, sv1, sw, ha, sv, ad, aa, vv0, vv1, ww, oa, co, rfl, hcp, hst, hcs, hcf, had⟩⟩

set_option maxHeartbeats 4000000 in
set_option maxRecDepth 100000 in
theorem CX_firstError (l : Launch) (G : eG) {fe B : Nat} {f sf : Nat → Int32} {ff : Nat → Nat → Int32} {old sz len : Nat} {tx : Nat → Int32} {hsn : Int32} {W : va_W} (hX : XS G fe f sf ff old sz len tx hsn W) (hR : PR B f sf ff old sz len tx hsn) (hB : B < 700000000) : Met l yX5_firstError wsX5_firstError ({ frames := 1, cells := 0, slots := 0, locals := 20 }) (PJ [.ref fe] G (fun H => va_P G.1 vwCl W H ∧ va_D (fun _ => True) W)) (MV (some (.int (nI (rR (nn tx) len)))) (fun H => ∃ W', XS G fe f sf ff old sz len tx hsn W' ∧ va_P G.1 vwCl W' H ∧ va_D (inW W) W') (inW W)) 0 0 (inW W) := by
  obtain ⟨an, tn, sn, v0, v1, w, tf, tv0, tv1, tw, sv0, sv1, sw, ha, sv, ad, aa, vv0, vv1, ww, oa, co, rfl, hcp, hst, hcs, hcf, had⟩ := hX
  obtain ⟨ho, hos, hof, hold, hz, htx, hk01⟩ := hR
  have hs := okf_shp (by omega) ho
  have hsS := okf_shp (by omega) hos
  have hrg : ∀ k, k < 6 → Shp (ff k) := fun k hk => okf_shp (by omega) (hof k hk)
  have heok := eR_ok htx
  have hrt := rR_le (nn tx) len
  exact liftP (c_X5_firstError l G fe (tn 0) (sn 0) ha hsn an oa co len (rR (nn tx) len) (eR (nn tx) len) tx) pm_FO ⟨an, tn, sn, v0, v1, w, tf, tv0, tv1, tw, sv0, sv1, sw, ha, sv, ad, aa, vv0, vv1, ww, oa, co, rfl, hcp, hst, hcs, hcf, had⟩

set_option maxHeartbeats 4000000 in
set_option maxRecDepth 100000 in
theorem CX_obey_ok (l : Launch) (G : eG) {fe B : Nat} {f sf : Nat → Int32} {ff : Nat → Nat → Int32} {old sz len : Nat} {tx : Nat → Int32} {hsn : Int32} {W : va_W} (hX : XS G fe f sf ff old sz len tx hsn W) (hR : PR B f sf ff old sz len tx hsn) (hB : B < 700000000) (hW : pW (nn tx) len (len + 1) 0 = true) (hcE : eCp (eR (nn tx) len) = true) : Met l yX5_obey wsX5_obey ({ frames := 6, cells := 0, slots := 0, locals := 140 }) (PJ [.ref fe] G (fun H => va_P G.1 vwCl W H ∧ va_D (fun _ => True) W)) (MV (some (.int (nI (yC (nn tx) len len 0 f)))) (fun H => ∃ W', XS G fe (yF (nn tx) len len 0 f) sf (rgS ff (hAt old sz) f) (hOld old sz) (svM sz) 0 tx hsn W' ∧ va_P G.1 vwCl W' H ∧ va_D (inW W) W') (inW W)) 0 0 (inW W) := by
  obtain ⟨an, tn, sn, v0, v1, w, tf, tv0, tv1, tw, sv0, sv1, sw, ha, sv, ad, aa, vv0, vv1, ww, oa, co, rfl, hcp, hst, hcs, hcf, had⟩ := hX
  obtain ⟨ho, hos, hof, hold, hz, htx, hk01⟩ := hR
  have hs := okf_shp (by omega) ho
  have hsS := okf_shp (by omega) hos
  have hrg : ∀ k, k < 6 → Shp (ff k) := fun k hk => okf_shp (by omega) (hof k hk)
  have heok := eR_ok htx
  have hrt := rR_le (nn tx) len
  refine liftM (c_X5_obey_ok l G fe (tn 0) (sn 0) ha hsn oa co len (rR (nn tx) len) (eR (nn tx) len) tx an f v0 v1 w sv old sz ad aa ff vv0 vv1 ww hs hcp hrg had hold hz B (by omega) ho htx hW heok hcE) (fun a s h => ⟨h.1, h.2.1, h.2.2.2⟩) pm_OBY (fun H hb => ?_)
  obtain ⟨v0', v1', w', hcw, hP1, hD1⟩ := hb
  exact ⟨_, _, hP1, hD1, pm_OBY.symm, ⟨an, tn, sn, v0', v1', w', tf, tv0, tv1, tw, sv0, sv1, sw, ha, sv, ad, aa, (rgS vv0 (hAt old sz) v0), (rgS vv1 (hAt old sz) v1), (rgS ww (hAt old sz) w), oa, co, rfl, hcw, hst, hcs, (rg_cpl hcf hcp), had⟩⟩

set_option maxHeartbeats 4000000 in
set_option maxRecDepth 100000 in
theorem CX_keep_ok (l : Launch) (G : eG) {fe B : Nat} {f sf : Nat → Int32} {ff : Nat → Nat → Int32} {old sz len : Nat} {tx : Nat → Int32} {hsn : Int32} {W : va_W} (hX : XS G fe f sf ff old sz len tx hsn W) (hR : PR B f sf ff old sz len tx hsn) (hB : B < 700000000) : Met l yX5_keep wsX5_keep ({ frames := 4, cells := 0, slots := 0, locals := 103 }) (PJ [.ref fe] G (fun H => va_P G.1 vwCl W H ∧ va_D (fun _ => True) W)) (MV (some (.int (f 50))) (fun H => ∃ W', XS G fe f f ff old sz len tx (nI 1) W' ∧ va_P G.1 vwCl W' H ∧ va_D (inW W) W') (inW W)) 0 0 (inW W) := by
  obtain ⟨an, tn, sn, v0, v1, w, tf, tv0, tv1, tw, sv0, sv1, sw, ha, sv, ad, aa, vv0, vv1, ww, oa, co, rfl, hcp, hst, hcs, hcf, had⟩ := hX
  obtain ⟨ho, hos, hof, hold, hz, htx, hk01⟩ := hR
  have hs := okf_shp (by omega) ho
  have hsS := okf_shp (by omega) hos
  have hrg : ∀ k, k < 6 → Shp (ff k) := fun k hk => okf_shp (by omega) (hof k hk)
  have heok := eR_ok htx
  have hrt := rR_le (nn tx) len
  refine liftM (c_X5_keep_ok l G fe (tn 0) ha oa hsn an f v0 v1 w sn sf sv0 sv1 sw hs hsS) (fun a s h => ⟨h.1, h.2.1, h.2.2.2⟩) pm_FNS (fun H hb => ?_)
  obtain ⟨hP1, hD1⟩ := hb
  exact ⟨_, _, hP1, hD1, pm_FNS.symm, ⟨an, tn, sn, v0, v1, w, tf, tv0, tv1, tw, v0, v1, w, ha, sv, ad, aa, vv0, vv1, ww, oa, co, rfl, hcp, hst, hcp, hcf, had⟩⟩

set_option maxHeartbeats 4000000 in
set_option maxRecDepth 100000 in
theorem CX_goBack_ok (l : Launch) (G : eG) {fe B : Nat} {f sf : Nat → Int32} {ff : Nat → Nat → Int32} {old sz len : Nat} {tx : Nat → Int32} {W : va_W} (hX : XS G fe f sf ff old sz len tx (nI 1) W) (hR : PR B f sf ff old sz len tx (nI 1)) (hB : B < 700000000) : Met l yX5_goBack wsX5_goBack ({ frames := 5, cells := 0, slots := 0, locals := 125 }) (PJ [.ref fe] G (fun H => va_P G.1 vwCl W H ∧ va_D (fun _ => True) W)) (MV (some (.int (sf 50))) (fun H => ∃ W', XS G fe sf sf (rgS ff (hAt old sz) f) (hOld old sz) (svM sz) len tx (nI 1) W' ∧ va_P G.1 vwCl W' H ∧ va_D (inW W) W') (inW W)) 0 0 (inW W) := by
  obtain ⟨an, tn, sn, v0, v1, w, tf, tv0, tv1, tw, sv0, sv1, sw, ha, sv, ad, aa, vv0, vv1, ww, oa, co, rfl, hcp, hst, hcs, hcf, had⟩ := hX
  obtain ⟨ho, hos, hof, hold, hz, htx, hk01⟩ := hR
  have hs := okf_shp (by omega) ho
  have hsS := okf_shp (by omega) hos
  have hrg : ∀ k, k < 6 → Shp (ff k) := fun k hk => okf_shp (by omega) (hof k hk)
  have heok := eR_ok htx
  have hrt := rR_le (nn tx) len
  refine liftM (c_X5_goBack_ok l G fe (tn 0) ha oa (nI 1) an f v0 v1 w sn sf sv0 sv1 sw sv old sz ad aa ff vv0 vv1 ww hs hsS hrg had hold hz) (fun a s h => ⟨h.1, h.2.1, h.2.2.2⟩) pm_FNSH (fun H hb => ?_)
  obtain ⟨hP1, hD1⟩ := hb
  exact ⟨_, _, hP1, hD1, pm_FNSH.symm, ⟨an, tn, sn, sv0, sv1, sw, tf, tv0, tv1, tw, sv0, sv1, sw, ha, sv, ad, aa, (rgS vv0 (hAt old sz) v0), (rgS vv1 (hAt old sz) v1), (rgS ww (hAt old sz) w), oa, co, rfl, hcs, hst, hcs, (rg_cpl hcf hcp), had⟩⟩

set_option maxHeartbeats 4000000 in
set_option maxRecDepth 100000 in
theorem CX_undo_ok (l : Launch) (G : eG) {fe B : Nat} {f sf : Nat → Int32} {ff : Nat → Nat → Int32} {old sz len : Nat} {tx : Nat → Int32} {hsn : Int32} {W : va_W} (hX : XS G fe f sf ff old sz len tx hsn W) (hR : PR B f sf ff old sz len tx hsn) (hB : B < 700000000) (hz1 : 1 ≤ sz) : Met l yX5_undo wsX5_undo ({ frames := 5, cells := 0, slots := 0, locals := 125 }) (PJ [.ref fe] G (fun H => va_P G.1 vwCl W H ∧ va_D (fun _ => True) W)) (MV (some (.int (nI (sz - 1)))) (fun H => ∃ W', XS G fe (ff (hBk old sz)) sf ff old (sz - 1) len tx hsn W' ∧ va_P G.1 vwCl W' H ∧ va_D (inW W) W') (inW W)) 0 0 (inW W) := by
  obtain ⟨an, tn, sn, v0, v1, w, tf, tv0, tv1, tw, sv0, sv1, sw, ha, sv, ad, aa, vv0, vv1, ww, oa, co, rfl, hcp, hst, hcs, hcf, had⟩ := hX
  obtain ⟨ho, hos, hof, hold, hz, htx, hk01⟩ := hR
  have hs := okf_shp (by omega) ho
  have hsS := okf_shp (by omega) hos
  have hrg : ∀ k, k < 6 → Shp (ff k) := fun k hk => okf_shp (by omega) (hof k hk)
  have heok := eR_ok htx
  have hrt := rR_le (nn tx) len
  refine liftM (c_X5_undo_ok l G fe (tn 0) (sn 0) ha oa hsn an f v0 v1 w sv old sz ad aa ff vv0 vv1 ww hs hrg had hold hz hz1) (fun a s h => ⟨h.1, h.2.1, h.2.2.2⟩) pm_SAV (fun H hb => ?_)
  obtain ⟨hP1, hD1⟩ := hb
  exact ⟨_, _, hP1, hD1, pm_SAV.symm, ⟨an, tn, sn, (vv0 (hBk old sz)), (vv1 (hBk old sz)), (ww (hBk old sz)), tf, tv0, tv1, tw, sv0, sv1, sw, ha, sv, ad, aa, vv0, vv1, ww, oa, co, rfl, (hcf _ (Nat.mod_lt _ (by decide))), hst, hcs, hcf, had⟩⟩

set_option maxHeartbeats 4000000 in
set_option maxRecDepth 100000 in
theorem CX_section_ok (l : Launch) (G : eG) {fe B : Nat} {f sf : Nat → Int32} {ff : Nat → Nat → Int32} {old sz len : Nat} {tx : Nat → Int32} {hsn : Int32} {W : va_W} (hX : XS G fe f sf ff old sz len tx hsn W) (hR : PR B f sf ff old sz len tx hsn) (hB : B < 700000000) (k : Nat) (x : Nat) (hk : k < 20) (hw : x < 3) : Met l yX5_section wsX5_section ({ frames := 3, cells := 0, slots := 0, locals := 68 }) (PJ [.ref fe, .int (nI k), .int (nI x)] G (fun H => va_P G.1 vwCl W H ∧ va_D (fun _ => True) W)) (MV (some (.int (fOf f k x))) (fun H => ∃ W', XS G fe f sf ff old sz len tx hsn W' ∧ va_P G.1 vwCl W' H ∧ va_D (inW W) W') (inW W)) 0 0 (inW W) := by
  obtain ⟨an, tn, sn, v0, v1, w, tf, tv0, tv1, tw, sv0, sv1, sw, ha, sv, ad, aa, vv0, vv1, ww, oa, co, rfl, hcp, hst, hcs, hcf, had⟩ := hX
  obtain ⟨ho, hos, hof, hold, hz, htx, hk01⟩ := hR
  have hs := okf_shp (by omega) ho
  have hsS := okf_shp (by omega) hos
  have hrg : ∀ k, k < 6 → Shp (ff k) := fun k hk => okf_shp (by omega) (hof k hk)
  have heok := eR_ok htx
  have hrt := rR_le (nn tx) len
  exact liftP (c_X5_section_ok l G fe (tn 0) (sn 0) ha oa hsn an f v0 v1 w hs k x hk hw) pm_FN ⟨an, tn, sn, v0, v1, w, tf, tv0, tv1, tw, sv0, sv1, sw, ha, sv, ad, aa, vv0, vv1, ww, oa, co, rfl, hcp, hst, hcs, hcf, had⟩

set_option maxHeartbeats 4000000 in
set_option maxRecDepth 100000 in
theorem CX_waiting_in (l : Launch) (G : eG) {fe B : Nat} {f sf : Nat → Int32} {ff : Nat → Nat → Int32} {old sz len : Nat} {tx : Nat → Int32} {hsn : Int32} {W : va_W} (hX : XS G fe f sf ff old sz len tx hsn W) (hR : PR B f sf ff old sz len tx hsn) (hB : B < 700000000) (b : Nat) (j : Nat) (hb2 : b < 2) (hj : j < 2147483648) (hjq : j < nn f (57 + 11 * b)) : Met l yX5_waiting wsX5_waiting ({ frames := 2, cells := 0, slots := 0, locals := 42 }) (PJ [.ref fe, .int (nI b), .int (nI j)] G (fun H => va_P G.1 vwCl W H ∧ va_D (fun _ => True) W)) (MV (some (.int (f (((57 + (11 * b)) + 1) + j)))) (fun H => ∃ W', XS G fe f sf ff old sz len tx hsn W' ∧ va_P G.1 vwCl W' H ∧ va_D (inW W) W') (inW W)) 0 0 (inW W) := by
  obtain ⟨an, tn, sn, v0, v1, w, tf, tv0, tv1, tw, sv0, sv1, sw, ha, sv, ad, aa, vv0, vv1, ww, oa, co, rfl, hcp, hst, hcs, hcf, had⟩ := hX
  obtain ⟨ho, hos, hof, hold, hz, htx, hk01⟩ := hR
  have hs := okf_shp (by omega) ho
  have hsS := okf_shp (by omega) hos
  have hrg : ∀ k, k < 6 → Shp (ff k) := fun k hk => okf_shp (by omega) (hof k hk)
  have heok := eR_ok htx
  have hrt := rR_le (nn tx) len
  exact liftP (c_X5_waiting_in l G fe (tn 0) (sn 0) ha oa hsn an f v0 v1 w hs hcp b j hb2 hj hjq) pm_FN ⟨an, tn, sn, v0, v1, w, tf, tv0, tv1, tw, sv0, sv1, sw, ha, sv, ad, aa, vv0, vv1, ww, oa, co, rfl, hcp, hst, hcs, hcf, had⟩

set_option maxHeartbeats 4000000 in
set_option maxRecDepth 100000 in
theorem CX_waiting_out (l : Launch) (G : eG) {fe B : Nat} {f sf : Nat → Int32} {ff : Nat → Nat → Int32} {old sz len : Nat} {tx : Nat → Int32} {hsn : Int32} {W : va_W} (hX : XS G fe f sf ff old sz len tx hsn W) (hR : PR B f sf ff old sz len tx hsn) (hB : B < 700000000) (b : Nat) (j : Nat) (hb2 : b < 2) (hj : j < 2147483648) (hjq : nn f (57 + 11 * b) ≤ j) : Met l yX5_waiting wsX5_waiting ({ frames := 1, cells := 0, slots := 0, locals := 22 }) (PJ [.ref fe, .int (nI b), .int (nI j)] G (fun H => va_P G.1 vwCl W H ∧ va_D (fun _ => True) W)) (MV (some (.int ((-1)))) (fun H => ∃ W', XS G fe f sf ff old sz len tx hsn W' ∧ va_P G.1 vwCl W' H ∧ va_D (inW W) W') (inW W)) 0 0 (inW W) := by
  obtain ⟨an, tn, sn, v0, v1, w, tf, tv0, tv1, tw, sv0, sv1, sw, ha, sv, ad, aa, vv0, vv1, ww, oa, co, rfl, hcp, hst, hcs, hcf, had⟩ := hX
  obtain ⟨ho, hos, hof, hold, hz, htx, hk01⟩ := hR
  have hs := okf_shp (by omega) ho
  have hsS := okf_shp (by omega) hos
  have hrg : ∀ k, k < 6 → Shp (ff k) := fun k hk => okf_shp (by omega) (hof k hk)
  have heok := eR_ok htx
  have hrt := rR_le (nn tx) len
  exact liftP (c_X5_waiting_out l G fe (tn 0) (sn 0) ha oa hsn an f v0 v1 w hs hcp b j hb2 hj hjq) pm_FN ⟨an, tn, sn, v0, v1, w, tf, tv0, tv1, tw, sv0, sv1, sw, ha, sv, ad, aa, vv0, vv1, ww, oa, co, rfl, hcp, hst, hcs, hcf, had⟩

set_option maxHeartbeats 4000000 in
set_option maxRecDepth 100000 in
theorem CX_deck_in (l : Launch) (G : eG) {fe B : Nat} {f sf : Nat → Int32} {ff : Nat → Nat → Int32} {old sz len : Nat} {tx : Nat → Int32} {hsn : Int32} {W : va_W} (hX : XS G fe f sf ff old sz len tx hsn W) (hR : PR B f sf ff old sz len tx hsn) (hB : B < 700000000) (b : Nat) (j : Nat) (hb2 : b < 2) (hj : j < 2147483648) (x : Nat) (hw2 : x < 2) (hjq : j < nn f (79 + 9 * b)) : Met l yX5_deck wsX5_deck ({ frames := 2, cells := 0, slots := 0, locals := 42 }) (PJ [.ref fe, .int (nI b), .int (nI j), .int (nI x)] G (fun H => va_P G.1 vwCl W H ∧ va_D (fun _ => True) W)) (MV (some (.int (f ((((79 + (9 * b)) + 1) + (2 * j)) + x)))) (fun H => ∃ W', XS G fe f sf ff old sz len tx hsn W' ∧ va_P G.1 vwCl W' H ∧ va_D (inW W) W') (inW W)) 0 0 (inW W) := by
  obtain ⟨an, tn, sn, v0, v1, w, tf, tv0, tv1, tw, sv0, sv1, sw, ha, sv, ad, aa, vv0, vv1, ww, oa, co, rfl, hcp, hst, hcs, hcf, had⟩ := hX
  obtain ⟨ho, hos, hof, hold, hz, htx, hk01⟩ := hR
  have hs := okf_shp (by omega) ho
  have hsS := okf_shp (by omega) hos
  have hrg : ∀ k, k < 6 → Shp (ff k) := fun k hk => okf_shp (by omega) (hof k hk)
  have heok := eR_ok htx
  have hrt := rR_le (nn tx) len
  exact liftP (c_X5_deck_in l G fe (tn 0) (sn 0) ha oa hsn an f v0 v1 w hs hcp b j hb2 hj x hw2 hjq) pm_FN ⟨an, tn, sn, v0, v1, w, tf, tv0, tv1, tw, sv0, sv1, sw, ha, sv, ad, aa, vv0, vv1, ww, oa, co, rfl, hcp, hst, hcs, hcf, had⟩

set_option maxHeartbeats 4000000 in
set_option maxRecDepth 100000 in
theorem CX_deck_out (l : Launch) (G : eG) {fe B : Nat} {f sf : Nat → Int32} {ff : Nat → Nat → Int32} {old sz len : Nat} {tx : Nat → Int32} {hsn : Int32} {W : va_W} (hX : XS G fe f sf ff old sz len tx hsn W) (hR : PR B f sf ff old sz len tx hsn) (hB : B < 700000000) (b : Nat) (j : Nat) (hb2 : b < 2) (hj : j < 2147483648) (x : Nat) (hw2 : x < 2) (hjq : nn f (79 + 9 * b) ≤ j) : Met l yX5_deck wsX5_deck ({ frames := 1, cells := 0, slots := 0, locals := 22 }) (PJ [.ref fe, .int (nI b), .int (nI j), .int (nI x)] G (fun H => va_P G.1 vwCl W H ∧ va_D (fun _ => True) W)) (MV (some (.int ((-1)))) (fun H => ∃ W', XS G fe f sf ff old sz len tx hsn W' ∧ va_P G.1 vwCl W' H ∧ va_D (inW W) W') (inW W)) 0 0 (inW W) := by
  obtain ⟨an, tn, sn, v0, v1, w, tf, tv0, tv1, tw, sv0, sv1, sw, ha, sv, ad, aa, vv0, vv1, ww, oa, co, rfl, hcp, hst, hcs, hcf, had⟩ := hX
  obtain ⟨ho, hos, hof, hold, hz, htx, hk01⟩ := hR
  have hs := okf_shp (by omega) ho
  have hsS := okf_shp (by omega) hos
  have hrg : ∀ k, k < 6 → Shp (ff k) := fun k hk => okf_shp (by omega) (hof k hk)
  have heok := eR_ok htx
  have hrt := rR_le (nn tx) len
  exact liftP (c_X5_deck_out l G fe (tn 0) (sn 0) ha oa hsn an f v0 v1 w hs hcp b j hb2 hj x hw2 hjq) pm_FN ⟨an, tn, sn, v0, v1, w, tf, tv0, tv1, tw, sv0, sv1, sw, ha, sv, ad, aa, vv0, vv1, ww, oa, co, rfl, hcp, hst, hcs, hcf, had⟩

set_option maxHeartbeats 4000000 in
set_option maxRecDepth 100000 in
theorem CX_count_ok (l : Launch) (G : eG) {fe B : Nat} {f sf : Nat → Int32} {ff : Nat → Nat → Int32} {old sz len : Nat} {tx : Nat → Int32} {hsn : Int32} {W : va_W} (hX : XS G fe f sf ff old sz len tx hsn W) (hR : PR B f sf ff old sz len tx hsn) (hB : B < 700000000) (x : Nat) (hw : x < 14) : Met l yX5_count wsX5_count ({ frames := 2, cells := 0, slots := 0, locals := 41 }) (PJ [.ref fe, .int (nI x)] G (fun H => va_P G.1 vwCl W H ∧ va_D (fun _ => True) W)) (MV (some (.int (fCnt f sz x))) (fun H => ∃ W', XS G fe f sf ff old sz len tx hsn W' ∧ va_P G.1 vwCl W' H ∧ va_D (inW W) W') (inW W)) 0 0 (inW W) := by
  obtain ⟨an, tn, sn, v0, v1, w, tf, tv0, tv1, tw, sv0, sv1, sw, ha, sv, ad, aa, vv0, vv1, ww, oa, co, rfl, hcp, hst, hcs, hcf, had⟩ := hX
  obtain ⟨ho, hos, hof, hold, hz, htx, hk01⟩ := hR
  have hs := okf_shp (by omega) ho
  have hsS := okf_shp (by omega) hos
  have hrg : ∀ k, k < 6 → Shp (ff k) := fun k hk => okf_shp (by omega) (hof k hk)
  have heok := eR_ok htx
  have hrt := rR_le (nn tx) len
  exact liftP (c_X5_count_ok l G fe (tn 0) (sn 0) ha oa hsn an f v0 v1 w sv old sz ad hs x hw) pm_FNH ⟨an, tn, sn, v0, v1, w, tf, tv0, tv1, tw, sv0, sv1, sw, ha, sv, ad, aa, vv0, vv1, ww, oa, co, rfl, hcp, hst, hcs, hcf, had⟩

set_option maxHeartbeats 4000000 in
set_option maxRecDepth 100000 in
theorem CX_currentOf_ok (l : Launch) (G : eG) {fe B : Nat} {f sf : Nat → Int32} {ff : Nat → Nat → Int32} {old sz len : Nat} {tx : Nat → Int32} {hsn : Int32} {W : va_W} (hX : XS G fe f sf ff old sz len tx hsn W) (hR : PR B f sf ff old sz len tx hsn) (hB : B < 700000000) (h : Nat) (hh : h < 24) : Met l yX5_currentOf wsX5_currentOf ({ frames := 1, cells := 0, slots := 0, locals := 22 }) (PJ [.ref fe, .int (nI h)] G (fun H => va_P G.1 vwCl W H ∧ va_D (fun _ => True) W)) (MV (some (.int (f (3 + h)))) (fun H => ∃ W', XS G fe f sf ff old sz len tx hsn W' ∧ va_P G.1 vwCl W' H ∧ va_D (inW W) W') (inW W)) 0 0 (inW W) := by
  obtain ⟨an, tn, sn, v0, v1, w, tf, tv0, tv1, tw, sv0, sv1, sw, ha, sv, ad, aa, vv0, vv1, ww, oa, co, rfl, hcp, hst, hcs, hcf, had⟩ := hX
  obtain ⟨ho, hos, hof, hold, hz, htx, hk01⟩ := hR
  have hs := okf_shp (by omega) ho
  have hsS := okf_shp (by omega) hos
  have hrg : ∀ k, k < 6 → Shp (ff k) := fun k hk => okf_shp (by omega) (hof k hk)
  have heok := eR_ok htx
  have hrt := rR_le (nn tx) len
  exact liftP (c_X5_currentOf_ok l G fe (tn 0) (sn 0) ha oa hsn an f v0 v1 w h hh) pm_FN ⟨an, tn, sn, v0, v1, w, tf, tv0, tv1, tw, sv0, sv1, sw, ha, sv, ad, aa, vv0, vv1, ww, oa, co, rfl, hcp, hst, hcs, hcf, had⟩

set_option maxHeartbeats 4000000 in
set_option maxRecDepth 100000 in
theorem CX_setting_ok (l : Launch) (G : eG) {fe B : Nat} {f sf : Nat → Int32} {ff : Nat → Nat → Int32} {old sz len : Nat} {tx : Nat → Int32} {hsn : Int32} {W : va_W} (hX : XS G fe f sf ff old sz len tx hsn W) (hR : PR B f sf ff old sz len tx hsn) (hB : B < 700000000) (s0 : Nat) (hs3 : s0 < 3) : Met l yX5_setting wsX5_setting ({ frames := 1, cells := 0, slots := 0, locals := 22 }) (PJ [.ref fe, .int (nI s0)] G (fun H => va_P G.1 vwCl W H ∧ va_D (fun _ => True) W)) (MV (some (.int (f s0))) (fun H => ∃ W', XS G fe f sf ff old sz len tx hsn W' ∧ va_P G.1 vwCl W' H ∧ va_D (inW W) W') (inW W)) 0 0 (inW W) := by
  obtain ⟨an, tn, sn, v0, v1, w, tf, tv0, tv1, tw, sv0, sv1, sw, ha, sv, ad, aa, vv0, vv1, ww, oa, co, rfl, hcp, hst, hcs, hcf, had⟩ := hX
  obtain ⟨ho, hos, hof, hold, hz, htx, hk01⟩ := hR
  have hs := okf_shp (by omega) ho
  have hsS := okf_shp (by omega) hos
  have hrg : ∀ k, k < 6 → Shp (ff k) := fun k hk => okf_shp (by omega) (hof k hk)
  have heok := eR_ok htx
  have hrt := rR_le (nn tx) len
  exact liftP (c_X5_setting_ok l G fe (tn 0) (sn 0) ha oa hsn an f v0 v1 w s0 hs3) pm_FN ⟨an, tn, sn, v0, v1, w, tf, tv0, tv1, tw, sv0, sv1, sw, ha, sv, ad, aa, vv0, vv1, ww, oa, co, rfl, hcp, hst, hcs, hcf, had⟩

set_option maxHeartbeats 4000000 in
set_option maxRecDepth 100000 in
theorem CX_why (l : Launch) (G : eG) {fe B : Nat} {f sf : Nat → Int32} {ff : Nat → Nat → Int32} {old sz len : Nat} {tx : Nat → Int32} {hsn : Int32} {W : va_W} (hX : XS G fe f sf ff old sz len tx hsn W) (hR : PR B f sf ff old sz len tx hsn) (hB : B < 700000000) : Met l yX5_why wsX5_why ({ frames := 4, cells := 0, slots := 0, locals := 93 }) (PJ [.ref fe] G (fun H => va_P G.1 vwCl W H ∧ va_D (fun _ => True) W)) (MV (some (.int (fRsn f))) (fun H => ∃ W', XS G fe f sf ff old sz len tx hsn W' ∧ va_P G.1 vwCl W' H ∧ va_D (inW W) W') (inW W)) 0 0 (inW W) := by
  obtain ⟨an, tn, sn, v0, v1, w, tf, tv0, tv1, tw, sv0, sv1, sw, ha, sv, ad, aa, vv0, vv1, ww, oa, co, rfl, hcp, hst, hcs, hcf, had⟩ := hX
  obtain ⟨ho, hos, hof, hold, hz, htx, hk01⟩ := hR
  have hs := okf_shp (by omega) ho
  have hsS := okf_shp (by omega) hos
  have hrg : ∀ k, k < 6 → Shp (ff k) := fun k hk => okf_shp (by omega) (hof k hk)
  have heok := eR_ok htx
  have hrt := rR_le (nn tx) len
  exact liftP (c_X5_why l G fe (tn 0) (sn 0) ha oa hsn an f v0 v1 w hs) pm_FN ⟨an, tn, sn, v0, v1, w, tf, tv0, tv1, tw, sv0, sv1, sw, ha, sv, ad, aa, vv0, vv1, ww, oa, co, rfl, hcp, hst, hcs, hcf, had⟩

set_option maxHeartbeats 4000000 in
set_option maxRecDepth 100000 in
theorem CX_weakest_ok (l : Launch) (G : eG) {fe B : Nat} {f sf : Nat → Int32} {ff : Nat → Nat → Int32} {old sz len : Nat} {tx : Nat → Int32} {hsn : Int32} {W : va_W} (hX : XS G fe f sf ff old sz len tx hsn W) (hR : PR B f sf ff old sz len tx hsn) (hB : B < 700000000) : Met l yX5_weakest wsX5_weakest ({ frames := 4, cells := 0, slots := 0, locals := 89 }) (PJ [.ref fe] G (fun H => va_P G.1 vwCl W H ∧ va_D (fun _ => True) W)) (MV (some (.int (nI (wkN f 20)))) (fun H => ∃ W', XS G fe f sf ff old sz len tx hsn W' ∧ va_P G.1 vwCl W' H ∧ va_D (inW W) W') (inW W)) 0 0 (inW W) := by
  obtain ⟨an, tn, sn, v0, v1, w, tf, tv0, tv1, tw, sv0, sv1, sw, ha, sv, ad, aa, vv0, vv1, ww, oa, co, rfl, hcp, hst, hcs, hcf, had⟩ := hX
  obtain ⟨ho, hos, hof, hold, hz, htx, hk01⟩ := hR
  have hs := okf_shp (by omega) ho
  have hsS := okf_shp (by omega) hos
  have hrg : ∀ k, k < 6 → Shp (ff k) := fun k hk => okf_shp (by omega) (hof k hk)
  have heok := eR_ok htx
  have hrt := rR_le (nn tx) len
  exact liftP (c_X5_weakest_ok l G fe (tn 0) (sn 0) ha oa hsn an f v0 v1 w hs) pm_FN ⟨an, tn, sn, v0, v1, w, tf, tv0, tv1, tw, sv0, sv1, sw, ha, sv, ad, aa, vv0, vv1, ww, oa, co, rfl, hcp, hst, hcs, hcf, had⟩

set_option maxHeartbeats 4000000 in
set_option maxRecDepth 100000 in
theorem CX_ifLoaded_ok (l : Launch) (G : eG) {fe B : Nat} {f sf : Nat → Int32} {ff : Nat → Nat → Int32} {old sz len : Nat} {tx : Nat → Int32} {hsn : Int32} {W : va_W} (hX : XS G fe f sf ff old sz len tx hsn W) (hR : PR B f sf ff old sz len tx hsn) (hB : B < 700000000) (q : Nat) (hq : q < 2) : Met l yX5_ifLoaded wsX5_ifLoaded ({ frames := 4, cells := 0, slots := 0, locals := 103 }) (PJ [.ref fe, .int (nI q)] G (fun H => va_P G.1 vwCl W H ∧ va_D (fun _ => True) W)) (MV (some (.int (fWl f q))) (fun H => ∃ W', XS G fe f sf ff old sz len tx hsn W' ∧ va_P G.1 vwCl W' H ∧ va_D (inW W) W') (inW W)) 0 0 (inW W) := by
  obtain ⟨an, tn, sn, v0, v1, w, tf, tv0, tv1, tw, sv0, sv1, sw, ha, sv, ad, aa, vv0, vv1, ww, oa, co, rfl, hcp, hst, hcs, hcf, had⟩ := hX
  obtain ⟨ho, hos, hof, hold, hz, htx, hk01⟩ := hR
  have hs := okf_shp (by omega) ho
  have hsS := okf_shp (by omega) hos
  have hrg : ∀ k, k < 6 → Shp (ff k) := fun k hk => okf_shp (by omega) (hof k hk)
  have heok := eR_ok htx
  have hrt := rR_le (nn tx) len
  refine liftM (c_X5_ifLoaded_ok l G fe (sn 0) ha oa hsn an f v0 v1 w tn tf tv0 tv1 tw hst hcp B (by omega) ho q hq) (fun a s h => ⟨h.1, h.2.1, h.2.2.2⟩) pm_FNT (fun H hb => ?_)
  obtain ⟨tf', t0', t1', tw', hst', hP1, hD1⟩ := hb
  exact ⟨_, _, hP1, hD1, pm_FNT.symm, ⟨an, tn, sn, v0, v1, w, tf', t0', t1', tw', sv0, sv1, sw, ha, sv, ad, aa, vv0, vv1, ww, oa, co, rfl, hcp, hst', hcs, hcf, had⟩⟩

set_option maxHeartbeats 4000000 in
set_option maxRecDepth 100000 in
theorem CX_bestHour_ok (l : Launch) (G : eG) {fe B : Nat} {f sf : Nat → Int32} {ff : Nat → Nat → Int32} {old sz len : Nat} {tx : Nat → Int32} {hsn : Int32} {W : va_W} (hX : XS G fe f sf ff old sz len tx hsn W) (hR : PR B f sf ff old sz len tx hsn) (hB : B < 700000000) : Met l yX5_bestHour wsX5_bestHour ({ frames := 4, cells := 0, slots := 0, locals := 93 }) (PJ [.ref fe] G (fun H => va_P G.1 vwCl W H ∧ va_D (fun _ => True) W)) (MV (some (.int (nI (bN f 24)))) (fun H => ∃ W', XS G fe f sf ff old sz len tx hsn W' ∧ va_P G.1 vwCl W' H ∧ va_D (inW W) W') (inW W)) 0 0 (inW W) := by
  obtain ⟨an, tn, sn, v0, v1, w, tf, tv0, tv1, tw, sv0, sv1, sw, ha, sv, ad, aa, vv0, vv1, ww, oa, co, rfl, hcp, hst, hcs, hcf, had⟩ := hX
  obtain ⟨ho, hos, hof, hold, hz, htx, hk01⟩ := hR
  have hs := okf_shp (by omega) ho
  have hsS := okf_shp (by omega) hos
  have hrg : ∀ k, k < 6 → Shp (ff k) := fun k hk => okf_shp (by omega) (hof k hk)
  have heok := eR_ok htx
  have hrt := rR_le (nn tx) len
  exact liftP (c_X5_bestHour_ok l G fe (tn 0) (sn 0) ha oa hsn an f v0 v1 w hs) pm_FN ⟨an, tn, sn, v0, v1, w, tf, tv0, tv1, tw, sv0, sv1, sw, ha, sv, ad, aa, vv0, vv1, ww, oa, co, rfl, hcp, hst, hcs, hcf, had⟩

set_option maxHeartbeats 4000000 in
set_option maxRecDepth 100000 in
theorem CX_leastList_ok (l : Launch) (G : eG) {fe B : Nat} {f sf : Nat → Int32} {ff : Nat → Nat → Int32} {old sz len : Nat} {tx : Nat → Int32} {hsn : Int32} {W : va_W} (hX : XS G fe f sf ff old sz len tx hsn W) (hR : PR B f sf ff old sz len tx hsn) (hB : B < 700000000) (v : Nat) (hv : v ≤ 8) : Met l yX5_leastList wsX5_leastList ({ frames := 4, cells := 0, slots := 0, locals := 93 }) (PJ [.ref fe, .int (nI v)] G (fun H => va_P G.1 vwCl W H ∧ va_D (fun _ => True) W)) (MV (some (.int (fLs f v))) (fun H => ∃ W', XS G fe f sf ff old sz len tx hsn W' ∧ va_P G.1 vwCl W' H ∧ va_D (inW W) W') (inW W)) 0 0 (inW W) := by
  obtain ⟨an, tn, sn, v0, v1, w, tf, tv0, tv1, tw, sv0, sv1, sw, ha, sv, ad, aa, vv0, vv1, ww, oa, co, rfl, hcp, hst, hcs, hcf, had⟩ := hX
  obtain ⟨ho, hos, hof, hold, hz, htx, hk01⟩ := hR
  have hs := okf_shp (by omega) ho
  have hsS := okf_shp (by omega) hos
  have hrg : ∀ k, k < 6 → Shp (ff k) := fun k hk => okf_shp (by omega) (hof k hk)
  have heok := eR_ok htx
  have hrt := rR_le (nn tx) len
  exact liftP (c_X5_leastList_ok l G fe (tn 0) (sn 0) ha oa hsn an f v0 v1 w hcp B (by omega) ho v hv) pm_FN ⟨an, tn, sn, v0, v1, w, tf, tv0, tv1, tw, sv0, sv1, sw, ha, sv, ad, aa, vv0, vv1, ww, oa, co, rfl, hcp, hst, hcs, hcf, had⟩

set_option maxHeartbeats 4000000 in
set_option maxRecDepth 100000 in
theorem CX_lasts_ok (l : Launch) (G : eG) {fe B : Nat} {f sf : Nat → Int32} {ff : Nat → Nat → Int32} {old sz len : Nat} {tx : Nat → Int32} {hsn : Int32} {W : va_W} (hX : XS G fe f sf ff old sz len tx hsn W) (hR : PR B f sf ff old sz len tx hsn) (hB : B < 700000000) : Met l yX5_lasts wsX5_lasts ({ frames := 4, cells := 0, slots := 0, locals := 103 }) (PJ [.ref fe] G (fun H => va_P G.1 vwCl W H ∧ va_D (fun _ => True) W)) (MV (some (.int (nI (nCr 100 f)))) (fun H => ∃ W', XS G fe f sf ff old sz len tx hsn W' ∧ va_P G.1 vwCl W' H ∧ va_D (inW W) W') (inW W)) 0 0 (inW W) := by
  obtain ⟨an, tn, sn, v0, v1, w, tf, tv0, tv1, tw, sv0, sv1, sw, ha, sv, ad, aa, vv0, vv1, ww, oa, co, rfl, hcp, hst, hcs, hcf, had⟩ := hX
  obtain ⟨ho, hos, hof, hold, hz, htx, hk01⟩ := hR
  have hs := okf_shp (by omega) ho
  have hsS := okf_shp (by omega) hos
  have hrg : ∀ k, k < 6 → Shp (ff k) := fun k hk => okf_shp (by omega) (hof k hk)
  have heok := eR_ok htx
  have hrt := rR_le (nn tx) len
  refine liftM (c_X5_lasts_ok l G fe (sn 0) ha oa hsn an f v0 v1 w tn tf tv0 tv1 tw hst hcp B (by omega) ho) (fun a s h => ⟨h.1, h.2.1, h.2.2.2⟩) pm_FNT (fun H hb => ?_)
  obtain ⟨tf', t0', t1', tw', hst', hP1, hD1⟩ := hb
  exact ⟨_, _, hP1, hD1, pm_FNT.symm, ⟨an, tn, sn, v0, v1, w, tf', t0', t1', tw', sv0, sv1, sw, ha, sv, ad, aa, vv0, vv1, ww, oa, co, rfl, hcp, hst', hcs, hcf, had⟩⟩

set_option maxHeartbeats 4000000 in
set_option maxRecDepth 100000 in
theorem CX_needed_ok (l : Launch) (G : eG) {fe B : Nat} {f sf : Nat → Int32} {ff : Nat → Nat → Int32} {old sz len : Nat} {tx : Nat → Int32} {hsn : Int32} {W : va_W} (hX : XS G fe f sf ff old sz len tx hsn W) (hR : PR B f sf ff old sz len tx hsn) (hB : B < 700000000) : Met l yX5_needed wsX5_needed ({ frames := 4, cells := 0, slots := 0, locals := 103 }) (PJ [.ref fe] G (fun H => va_P G.1 vwCl W H ∧ va_D (fun _ => True) W)) (MV (some (.int (fNd f))) (fun H => ∃ W', XS G fe f sf ff old sz len tx hsn W' ∧ va_P G.1 vwCl W' H ∧ va_D (inW W) W') (inW W)) 0 0 (inW W) := by
  obtain ⟨an, tn, sn, v0, v1, w, tf, tv0, tv1, tw, sv0, sv1, sw, ha, sv, ad, aa, vv0, vv1, ww, oa, co, rfl, hcp, hst, hcs, hcf, had⟩ := hX
  obtain ⟨ho, hos, hof, hold, hz, htx, hk01⟩ := hR
  have hs := okf_shp (by omega) ho
  have hsS := okf_shp (by omega) hos
  have hrg : ∀ k, k < 6 → Shp (ff k) := fun k hk => okf_shp (by omega) (hof k hk)
  have heok := eR_ok htx
  have hrt := rR_le (nn tx) len
  refine liftM (c_X5_needed_ok l G fe (sn 0) ha oa hsn an f v0 v1 w tn tf tv0 tv1 tw hst hcp B (by omega) ho) (fun a s h => ⟨h.1, h.2.1, h.2.2.2⟩) pm_FNT (fun H hb => ?_)
  obtain ⟨tf', t0', t1', tw', hst', hP1, hD1⟩ := hb
  exact ⟨_, _, hP1, hD1, pm_FNT.symm, ⟨an, tn, sn, v0, v1, w, tf', t0', t1', tw', sv0, sv1, sw, ha, sv, ad, aa, vv0, vv1, ww, oa, co, rfl, hcp, hst', hcs, hcf, had⟩⟩

set_option maxHeartbeats 4000000 in
set_option maxRecDepth 100000 in
theorem CX_wornShare (l : Launch) (G : eG) {fe B : Nat} {f sf : Nat → Int32} {ff : Nat → Nat → Int32} {old sz len : Nat} {tx : Nat → Int32} {hsn : Int32} {W : va_W} (hX : XS G fe f sf ff old sz len tx hsn W) (hR : PR B f sf ff old sz len tx hsn) (hB : B < 700000000) : Met l yX5_wornShare wsX5_wornShare ({ frames := 2, cells := 0, slots := 0, locals := 43 }) (PJ [.ref fe] G (fun H => va_P G.1 vwCl W H ∧ va_D (fun _ => True) W)) (MV (some (.float (fWs f))) (fun H => ∃ W', XS G fe f sf ff old sz len tx hsn W' ∧ va_P G.1 vwCl W' H ∧ va_D (inW W) W') (inW W)) 0 0 (inW W) := by
  obtain ⟨an, tn, sn, v0, v1, w, tf, tv0, tv1, tw, sv0, sv1, sw, ha, sv, ad, aa, vv0, vv1, ww, oa, co, rfl, hcp, hst, hcs, hcf, had⟩ := hX
  obtain ⟨ho, hos, hof, hold, hz, htx, hk01⟩ := hR
  have hs := okf_shp (by omega) ho
  have hsS := okf_shp (by omega) hos
  have hrg : ∀ k, k < 6 → Shp (ff k) := fun k hk => okf_shp (by omega) (hof k hk)
  have heok := eR_ok htx
  have hrt := rR_le (nn tx) len
  exact liftP (c_X5_wornShare l G fe (tn 0) (sn 0) ha oa hsn an f v0 v1 w B (by omega) ho) pm_FN ⟨an, tn, sn, v0, v1, w, tf, tv0, tv1, tw, sv0, sv1, sw, ha, sv, ad, aa, vv0, vv1, ww, oa, co, rfl, hcp, hst, hcs, hcf, had⟩

set_option maxHeartbeats 4000000 in
set_option maxRecDepth 100000 in
theorem CX_carriedShare (l : Launch) (G : eG) {fe B : Nat} {f sf : Nat → Int32} {ff : Nat → Nat → Int32} {old sz len : Nat} {tx : Nat → Int32} {hsn : Int32} {W : va_W} (hX : XS G fe f sf ff old sz len tx hsn W) (hR : PR B f sf ff old sz len tx hsn) (hB : B < 700000000) : Met l yX5_carriedShare wsX5_carriedShare ({ frames := 0, cells := 0, slots := 0, locals := 0 }) (PJ [.ref fe] G (fun H => va_P G.1 vwCl W H ∧ va_D (fun _ => True) W)) (MV (some (.double (fCs f))) (fun H => ∃ W', XS G fe f sf ff old sz len tx hsn W' ∧ va_P G.1 vwCl W' H ∧ va_D (inW W) W') (inW W)) 0 0 (inW W) := by
  obtain ⟨an, tn, sn, v0, v1, w, tf, tv0, tv1, tw, sv0, sv1, sw, ha, sv, ad, aa, vv0, vv1, ww, oa, co, rfl, hcp, hst, hcs, hcf, had⟩ := hX
  obtain ⟨ho, hos, hof, hold, hz, htx, hk01⟩ := hR
  have hs := okf_shp (by omega) ho
  have hsS := okf_shp (by omega) hos
  have hrg : ∀ k, k < 6 → Shp (ff k) := fun k hk => okf_shp (by omega) (hof k hk)
  have heok := eR_ok htx
  have hrt := rR_le (nn tx) len
  exact liftP (c_X5_carriedShare l G fe (tn 0) (sn 0) ha oa hsn an f v0 v1 w B (by omega) ho) pm_FN ⟨an, tn, sn, v0, v1, w, tf, tv0, tv1, tw, sv0, sv1, sw, ha, sv, ad, aa, vv0, vv1, ww, oa, co, rfl, hcp, hst, hcs, hcf, had⟩

set_option maxHeartbeats 4000000 in
set_option maxRecDepth 100000 in
theorem CX_digest_ok (l : Launch) (G : eG) {fe B : Nat} {f sf : Nat → Int32} {ff : Nat → Nat → Int32} {old sz len : Nat} {tx : Nat → Int32} {hsn : Int32} {W : va_W} (hX : XS G fe f sf ff old sz len tx hsn W) (hR : PR B f sf ff old sz len tx hsn) (hB : B < 700000000) : Met l yX5_digest wsX5_digest ({ frames := 6, cells := 0, slots := 0, locals := 149 }) (PJ [.ref fe] G (fun H => va_P G.1 vwCl W H ∧ va_D (fun _ => True) W)) (MV (some (.long (dgF f sz len tx hsn))) (fun H => ∃ W', XS G fe f sf ff old sz len tx hsn W' ∧ va_P G.1 vwCl W' H ∧ va_D (inW W) W') (inW W)) 0 0 (inW W) := by
  obtain ⟨an, tn, sn, v0, v1, w, tf, tv0, tv1, tw, sv0, sv1, sw, ha, sv, ad, aa, vv0, vv1, ww, oa, co, rfl, hcp, hst, hcs, hcf, had⟩ := hX
  obtain ⟨ho, hos, hof, hold, hz, htx, hk01⟩ := hR
  have hs := okf_shp (by omega) ho
  have hsS := okf_shp (by omega) hos
  have hrg : ∀ k, k < 6 → Shp (ff k) := fun k hk => okf_shp (by omega) (hof k hk)
  have heok := eR_ok htx
  have hrt := rR_le (nn tx) len
  refine liftM (c_X5_digest_ok l G fe (sn 0) ha hsn oa co len (rR (nn tx) len) (eR (nn tx) len) tx an f v0 v1 w tn tf tv0 tv1 tw sv old sz ad hst hcp B (by omega) ho htx) (fun a s h => ⟨h.1, h.2.1, h.2.2.2⟩) pm_DIG (fun H hb => ?_)
  obtain ⟨tf', t0', t1', tw', hst', hP1, hD1⟩ := hb
  exact ⟨_, _, hP1, hD1, pm_DIG.symm, ⟨an, tn, sn, v0, v1, w, tf', t0', t1', tw', sv0, sv1, sw, ha, sv, ad, aa, vv0, vv1, ww, oa, co, rfl, hcp, hst', hcs, hcf, had⟩⟩
