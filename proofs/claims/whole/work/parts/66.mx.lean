set_option maxHeartbeats 4000000 in
set_option maxRecDepth 100000 in
theorem MX_current_ok (l : Launch) (G : eG) {ob B : Nat} {f sf : Nat → Int32} {ff : Nat → Nat → Int32} {old sz len : Nat} {tx : Nat → Int32} {hsn thr : Int32} {M : va_W} (hM : RS G ob f sf ff old sz len tx hsn thr M) (hR : PR B f sf ff old sz len tx hsn) (hB : B < 700000000) (h : Nat) (q : Nat) (hh : h < 24) (hq : q ≤ 40) : Met l yX6_current wsX6_current ({ frames := 3, cells := 0, slots := 0, locals := 68 }) (PJ [.ref ob, .int (nI h), .int (nI q)] G (fun H => va_P G.1 vwCl M H ∧ va_D (fun _ => True) M)) (MV (some (.int (f (3 + h)))) (fun H => ∃ M', RS G ob (upd f (3 + h) (nI q)) sf (rgS ff (hAt old sz) f) (hOld old sz) (svM sz) len tx hsn (nI 0) M' ∧ va_P G.1 vwCl M' H ∧ va_D (inW M) M') (inW M)) 0 0 (inW M) := by
  obtain ⟨a1, a2, a3, a4, a5, th, pa, sn, spot, bad, lt, one, two, wh, hash, rfl, hsr, hpr⟩ := hM
  obtain ⟨ho, hos, hof, hold, hz, htx, hk01⟩ := hR
  have hs := okf_shp (by omega) ho
  have hsS := okf_shp (by omega) hos
  have heok := eR_ok htx
  have hrt := rR_le (nn tx) len
  refine liftN (c_X6_current_ok l G ob a1 a2 a3 a4 a5 f th pa sn tx sz len spot hsn thr bad lt one two wh hash hz h q hh hq) (fun a s h => ⟨h.1, h.2.1, h.2.2.2⟩) (fun H hb => ?_)
  obtain ⟨hP1, hD1⟩ := hb
  exact ⟨_, hP1, hD1, ⟨_, _, _, _, _, _, _, _, _, _, _, _, _, _, _,  rfl, hsr, (sav_rel hold hz hpr)⟩⟩

set_option maxHeartbeats 4000000 in
set_option maxRecDepth 100000 in
theorem MX_current_e1 (l : Launch) (G : eG) {ob B : Nat} {f sf : Nat → Int32} {ff : Nat → Nat → Int32} {old sz len : Nat} {tx : Nat → Int32} {hsn thr : Int32} {M : va_W} (hM : RS G ob f sf ff old sz len tx hsn thr M) (hR : PR B f sf ff old sz len tx hsn) (hB : B < 700000000) (p0 : Int32) (p1 : Int32) (hNo : ¬ (nI 0 ≤ p0 ∧ p0 ≤ nI 23)) : Met l yX6_current wsX6_current ({ frames := 1, cells := 0, slots := 0, locals := 22 }) (PJ [.ref ob, .int p0, .int p1] G (fun H => va_P G.1 vwCl M H ∧ va_D (fun _ => True) M)) (MV (some (.int (nI 0))) (fun H => ∃ M', RS G ob f sf ff old sz len tx hsn (nI 1) M' ∧ va_P G.1 vwCl M' H ∧ va_D (inW M) M') (inW M)) 0 0 (inW M) := by
  obtain ⟨a1, a2, a3, a4, a5, th, pa, sn, spot, bad, lt, one, two, wh, hash, rfl, hsr, hpr⟩ := hM
  obtain ⟨ho, hos, hof, hold, hz, htx, hk01⟩ := hR
  have hs := okf_shp (by omega) ho
  have hsS := okf_shp (by omega) hos
  have heok := eR_ok htx
  have hrt := rR_le (nn tx) len
  refine liftN (c_X6_current_e1 l G ob a1 a2 a3 a4 a5 f th pa sn tx sz len spot hsn thr bad lt one two wh hash p0 p1 hNo) (fun a s h => ⟨h.1, h.2.1, h.2.2.2⟩) (fun H hb => ?_)
  obtain ⟨hP1, hD1⟩ := hb
  exact ⟨_, hP1, hD1, ⟨_, _, _, _, _, _, _, _, _, _, _, _, _, _, _,  rfl, hsr, hpr⟩⟩

set_option maxHeartbeats 4000000 in
set_option maxRecDepth 100000 in
theorem MX_current_e2 (l : Launch) (G : eG) {ob B : Nat} {f sf : Nat → Int32} {ff : Nat → Nat → Int32} {old sz len : Nat} {tx : Nat → Int32} {hsn thr : Int32} {M : va_W} (hM : RS G ob f sf ff old sz len tx hsn thr M) (hR : PR B f sf ff old sz len tx hsn) (hB : B < 700000000) (p0 : Int32) (p1 : Int32) (h1 : nI 0 ≤ p0 ∧ p0 ≤ nI 23) (hNo : ¬ (nI 0 ≤ p1 ∧ p1 ≤ nI 40)) : Met l yX6_current wsX6_current ({ frames := 1, cells := 0, slots := 0, locals := 22 }) (PJ [.ref ob, .int p0, .int p1] G (fun H => va_P G.1 vwCl M H ∧ va_D (fun _ => True) M)) (MV (some (.int (nI 0))) (fun H => ∃ M', RS G ob f sf ff old sz len tx hsn (nI 2) M' ∧ va_P G.1 vwCl M' H ∧ va_D (inW M) M') (inW M)) 0 0 (inW M) := by
  obtain ⟨a1, a2, a3, a4, a5, th, pa, sn, spot, bad, lt, one, two, wh, hash, rfl, hsr, hpr⟩ := hM
  obtain ⟨ho, hos, hof, hold, hz, htx, hk01⟩ := hR
  have hs := okf_shp (by omega) ho
  have hsS := okf_shp (by omega) hos
  have heok := eR_ok htx
  have hrt := rR_le (nn tx) len
  refine liftN (c_X6_current_e2 l G ob a1 a2 a3 a4 a5 f th pa sn tx sz len spot hsn thr bad lt one two wh hash p0 p1 h1 hNo) (fun a s h => ⟨h.1, h.2.1, h.2.2.2⟩) (fun H hb => ?_)
  obtain ⟨hP1, hD1⟩ := hb
  exact ⟨_, hP1, hD1, ⟨_, _, _, _, _, _, _, _, _, _, _, _, _, _, _,  rfl, hsr, hpr⟩⟩

set_option maxHeartbeats 4000000 in
set_option maxRecDepth 100000 in
theorem MX_arrive_ok (l : Launch) (G : eG) {ob B : Nat} {f sf : Nat → Int32} {ff : Nat → Nat → Int32} {old sz len : Nat} {tx : Nat → Int32} {hsn thr : Int32} {M : va_W} (hM : RS G ob f sf ff old sz len tx hsn thr M) (hR : PR B f sf ff old sz len tx hsn) (hB : B < 700000000) (b : Nat) (y : Nat) (hb2 : b < 2) (hy1 : 1 ≤ y) (hy : y ≤ 20) (hq : nn f (57 + 11 * b) < 10) : Met l yX6_arrive wsX6_arrive ({ frames := 2, cells := 0, slots := 0, locals := 45 }) (PJ [.ref ob, .int (nI b), .int (nI y)] G (fun H => va_P G.1 vwCl M H ∧ va_D (fun _ => True) M)) (MV (some (.int (f (57 + (11 * b)) + nI 1))) (fun H => ∃ M', RS G ob (fArr f b (nI y)) sf (rgS ff (hAt old sz) f) (hOld old sz) (svM sz) len tx hsn (nI 0) M' ∧ va_P G.1 vwCl M' H ∧ va_D (inW M) M') (inW M)) 0 0 (inW M) := by
  obtain ⟨a1, a2, a3, a4, a5, th, pa, sn, spot, bad, lt, one, two, wh, hash, rfl, hsr, hpr⟩ := hM
  obtain ⟨ho, hos, hof, hold, hz, htx, hk01⟩ := hR
  have hs := okf_shp (by omega) ho
  have hsS := okf_shp (by omega) hos
  have heok := eR_ok htx
  have hrt := rR_le (nn tx) len
  refine liftN (c_X6_arrive_ok l G ob a1 a2 a3 a4 a5 f th pa sn tx sz len spot hsn thr bad lt one two wh hash hs hz b y hb2 hy1 hy hq) (fun a s h => ⟨h.1, h.2.1, h.2.2.2⟩) (fun H hb => ?_)
  obtain ⟨hP1, hD1⟩ := hb
  exact ⟨_, hP1, hD1, ⟨_, _, _, _, _, _, _, _, _, _, _, _, _, _, _,  rfl, hsr, (sav_rel hold hz hpr)⟩⟩

set_option maxHeartbeats 4000000 in
set_option maxRecDepth 100000 in
theorem MX_arrive_e1 (l : Launch) (G : eG) {ob B : Nat} {f sf : Nat → Int32} {ff : Nat → Nat → Int32} {old sz len : Nat} {tx : Nat → Int32} {hsn thr : Int32} {M : va_W} (hM : RS G ob f sf ff old sz len tx hsn thr M) (hR : PR B f sf ff old sz len tx hsn) (hB : B < 700000000) (p0 : Int32) (p1 : Int32) (hNo : ¬ (nI 0 ≤ p0 ∧ p0 ≤ nI 1)) : Met l yX6_arrive wsX6_arrive ({ frames := 2, cells := 0, slots := 0, locals := 42 }) (PJ [.ref ob, .int p0, .int p1] G (fun H => va_P G.1 vwCl M H ∧ va_D (fun _ => True) M)) (MV (some (.int (nI 0))) (fun H => ∃ M', RS G ob f sf ff old sz len tx hsn (nI 1) M' ∧ va_P G.1 vwCl M' H ∧ va_D (inW M) M') (inW M)) 0 0 (inW M) := by
  obtain ⟨a1, a2, a3, a4, a5, th, pa, sn, spot, bad, lt, one, two, wh, hash, rfl, hsr, hpr⟩ := hM
  obtain ⟨ho, hos, hof, hold, hz, htx, hk01⟩ := hR
  have hs := okf_shp (by omega) ho
  have hsS := okf_shp (by omega) hos
  have heok := eR_ok htx
  have hrt := rR_le (nn tx) len
  refine liftN (c_X6_arrive_e1 l G ob a1 a2 a3 a4 a5 f th pa sn tx sz len spot hsn thr bad lt one two wh hash p0 p1 hNo) (fun a s h => ⟨h.1, h.2.1, h.2.2.2⟩) (fun H hb => ?_)
  obtain ⟨hP1, hD1⟩ := hb
  exact ⟨_, hP1, hD1, ⟨_, _, _, _, _, _, _, _, _, _, _, _, _, _, _,  rfl, hsr, hpr⟩⟩

set_option maxHeartbeats 4000000 in
set_option maxRecDepth 100000 in
theorem MX_arrive_e2 (l : Launch) (G : eG) {ob B : Nat} {f sf : Nat → Int32} {ff : Nat → Nat → Int32} {old sz len : Nat} {tx : Nat → Int32} {hsn thr : Int32} {M : va_W} (hM : RS G ob f sf ff old sz len tx hsn thr M) (hR : PR B f sf ff old sz len tx hsn) (hB : B < 700000000) (p0 : Int32) (p1 : Int32) (h1 : nI 0 ≤ p0 ∧ p0 ≤ nI 1) (hNo : ¬ (nI 1 ≤ p1 ∧ p1 ≤ nI 20)) : Met l yX6_arrive wsX6_arrive ({ frames := 2, cells := 0, slots := 0, locals := 42 }) (PJ [.ref ob, .int p0, .int p1] G (fun H => va_P G.1 vwCl M H ∧ va_D (fun _ => True) M)) (MV (some (.int (nI 0))) (fun H => ∃ M', RS G ob f sf ff old sz len tx hsn (nI 2) M' ∧ va_P G.1 vwCl M' H ∧ va_D (inW M) M') (inW M)) 0 0 (inW M) := by
  obtain ⟨a1, a2, a3, a4, a5, th, pa, sn, spot, bad, lt, one, two, wh, hash, rfl, hsr, hpr⟩ := hM
  obtain ⟨ho, hos, hof, hold, hz, htx, hk01⟩ := hR
  have hs := okf_shp (by omega) ho
  have hsS := okf_shp (by omega) hos
  have heok := eR_ok htx
  have hrt := rR_le (nn tx) len
  refine liftN (c_X6_arrive_e2 l G ob a1 a2 a3 a4 a5 f th pa sn tx sz len spot hsn thr bad lt one two wh hash p0 p1 h1 hNo) (fun a s h => ⟨h.1, h.2.1, h.2.2.2⟩) (fun H hb => ?_)
  obtain ⟨hP1, hD1⟩ := hb
  exact ⟨_, hP1, hD1, ⟨_, _, _, _, _, _, _, _, _, _, _, _, _, _, _,  rfl, hsr, hpr⟩⟩

set_option maxHeartbeats 4000000 in
set_option maxRecDepth 100000 in
theorem MX_arrive_e3 (l : Launch) (G : eG) {ob B : Nat} {f sf : Nat → Int32} {ff : Nat → Nat → Int32} {old sz len : Nat} {tx : Nat → Int32} {hsn thr : Int32} {M : va_W} (hM : RS G ob f sf ff old sz len tx hsn thr M) (hR : PR B f sf ff old sz len tx hsn) (hB : B < 700000000) (b : Nat) (y : Nat) (hb2 : b < 2) (hy1 : 1 ≤ y) (hy : y ≤ 20) (hq : nn f (57 + 11 * b) = 10) : Met l yX6_arrive wsX6_arrive ({ frames := 2, cells := 0, slots := 0, locals := 42 }) (PJ [.ref ob, .int (nI b), .int (nI y)] G (fun H => va_P G.1 vwCl M H ∧ va_D (fun _ => True) M)) (MV (some (.int (nI 0))) (fun H => ∃ M', RS G ob f sf ff old sz len tx hsn (nI 3) M' ∧ va_P G.1 vwCl M' H ∧ va_D (inW M) M') (inW M)) 0 0 (inW M) := by
  obtain ⟨a1, a2, a3, a4, a5, th, pa, sn, spot, bad, lt, one, two, wh, hash, rfl, hsr, hpr⟩ := hM
  obtain ⟨ho, hos, hof, hold, hz, htx, hk01⟩ := hR
  have hs := okf_shp (by omega) ho
  have hsS := okf_shp (by omega) hos
  have heok := eR_ok htx
  have hrt := rR_le (nn tx) len
  refine liftN (c_X6_arrive_e3 l G ob a1 a2 a3 a4 a5 f th pa sn tx sz len spot hsn thr bad lt one two wh hash hs b y hb2 hy1 hy hq) (fun a s h => ⟨h.1, h.2.1, h.2.2.2⟩) (fun H hb => ?_)
  obtain ⟨hP1, hD1⟩ := hb
  exact ⟨_, hP1, hD1, ⟨_, _, _, _, _, _, _, _, _, _, _, _, _, _, _,  rfl, hsr, hpr⟩⟩

set_option maxHeartbeats 4000000 in
set_option maxRecDepth 100000 in
theorem MX_load_ok (l : Launch) (G : eG) {ob B : Nat} {f sf : Nat → Int32} {ff : Nat → Nat → Int32} {old sz len : Nat} {tx : Nat → Int32} {hsn thr : Int32} {M : va_W} (hM : RS G ob f sf ff old sz len tx hsn thr M) (hR : PR B f sf ff old sz len tx hsn) (hB : B < 700000000) (q : Nat) (hq : q < 2) (hc : fCan f q = true) : Met l yX6_load wsX6_load ({ frames := 2, cells := 0, slots := 0, locals := 45 }) (PJ [.ref ob, .int (nI q)] G (fun H => va_P G.1 vwCl M H ∧ va_D (fun _ => True) M)) (MV (some (.int (f (fAt f + 1)))) (fun H => ∃ M', RS G ob (fLod f q) sf (rgS ff (hAt old sz) f) (hOld old sz) (svM sz) len tx hsn (nI 0) M' ∧ va_P G.1 vwCl M' H ∧ va_D (inW M) M') (inW M)) 0 0 (inW M) := by
  obtain ⟨a1, a2, a3, a4, a5, th, pa, sn, spot, bad, lt, one, two, wh, hash, rfl, hsr, hpr⟩ := hM
  obtain ⟨ho, hos, hof, hold, hz, htx, hk01⟩ := hR
  have hs := okf_shp (by omega) ho
  have hsS := okf_shp (by omega) hos
  have heok := eR_ok htx
  have hrt := rR_le (nn tx) len
  refine liftN (c_X6_load_ok l G ob a1 a2 a3 a4 a5 f th pa sn tx sz len spot hsn thr bad lt one two wh hash hs hz q hq hc) (fun a s h => ⟨h.1, h.2.1, h.2.2.2⟩) (fun H hb => ?_)
  obtain ⟨hP1, hD1⟩ := hb
  exact ⟨_, hP1, hD1, ⟨_, _, _, _, _, _, _, _, _, _, _, _, _, _, _,  rfl, hsr, (sav_rel hold hz hpr)⟩⟩

set_option maxHeartbeats 4000000 in
set_option maxRecDepth 100000 in
theorem MX_load_e1 (l : Launch) (G : eG) {ob B : Nat} {f sf : Nat → Int32} {ff : Nat → Nat → Int32} {old sz len : Nat} {tx : Nat → Int32} {hsn thr : Int32} {M : va_W} (hM : RS G ob f sf ff old sz len tx hsn thr M) (hR : PR B f sf ff old sz len tx hsn) (hB : B < 700000000) (p0 : Int32) (hNo : ¬ (nI 0 ≤ p0 ∧ p0 ≤ nI 1)) : Met l yX6_load wsX6_load ({ frames := 2, cells := 0, slots := 0, locals := 42 }) (PJ [.ref ob, .int p0] G (fun H => va_P G.1 vwCl M H ∧ va_D (fun _ => True) M)) (MV (some (.int (nI 0))) (fun H => ∃ M', RS G ob f sf ff old sz len tx hsn (nI 1) M' ∧ va_P G.1 vwCl M' H ∧ va_D (inW M) M') (inW M)) 0 0 (inW M) := by
  obtain ⟨a1, a2, a3, a4, a5, th, pa, sn, spot, bad, lt, one, two, wh, hash, rfl, hsr, hpr⟩ := hM
  obtain ⟨ho, hos, hof, hold, hz, htx, hk01⟩ := hR
  have hs := okf_shp (by omega) ho
  have hsS := okf_shp (by omega) hos
  have heok := eR_ok htx
  have hrt := rR_le (nn tx) len
  refine liftN (c_X6_load_e1 l G ob a1 a2 a3 a4 a5 f th pa sn tx sz len spot hsn thr bad lt one two wh hash p0 hNo) (fun a s h => ⟨h.1, h.2.1, h.2.2.2⟩) (fun H hb => ?_)
  obtain ⟨hP1, hD1⟩ := hb
  exact ⟨_, hP1, hD1, ⟨_, _, _, _, _, _, _, _, _, _, _, _, _, _, _,  rfl, hsr, hpr⟩⟩

set_option maxHeartbeats 4000000 in
set_option maxRecDepth 100000 in
theorem MX_load_e2 (l : Launch) (G : eG) {ob B : Nat} {f sf : Nat → Int32} {ff : Nat → Nat → Int32} {old sz len : Nat} {tx : Nat → Int32} {hsn thr : Int32} {M : va_W} (hM : RS G ob f sf ff old sz len tx hsn thr M) (hR : PR B f sf ff old sz len tx hsn) (hB : B < 700000000) (q : Nat) (hq : q < 2) (hc : ¬ fCan f q = true) : Met l yX6_load wsX6_load ({ frames := 2, cells := 0, slots := 0, locals := 42 }) (PJ [.ref ob, .int (nI q)] G (fun H => va_P G.1 vwCl M H ∧ va_D (fun _ => True) M)) (MV (some (.int (nI 0))) (fun H => ∃ M', RS G ob f sf ff old sz len tx hsn (nI 2) M' ∧ va_P G.1 vwCl M' H ∧ va_D (inW M) M') (inW M)) 0 0 (inW M) := by
  obtain ⟨a1, a2, a3, a4, a5, th, pa, sn, spot, bad, lt, one, two, wh, hash, rfl, hsr, hpr⟩ := hM
  obtain ⟨ho, hos, hof, hold, hz, htx, hk01⟩ := hR
  have hs := okf_shp (by omega) ho
  have hsS := okf_shp (by omega) hos
  have heok := eR_ok htx
  have hrt := rR_le (nn tx) len
  refine liftN (c_X6_load_e2 l G ob a1 a2 a3 a4 a5 f th pa sn tx sz len spot hsn thr bad lt one two wh hash hs q hq hc) (fun a s h => ⟨h.1, h.2.1, h.2.2.2⟩) (fun H hb => ?_)
  obtain ⟨hP1, hD1⟩ := hb
  exact ⟨_, hP1, hD1, ⟨_, _, _, _, _, _, _, _, _, _, _, _, _, _, _,  rfl, hsr, hpr⟩⟩

set_option maxHeartbeats 4000000 in
set_option maxRecDepth 100000 in
theorem MX_unload_ok (l : Launch) (G : eG) {ob B : Nat} {f sf : Nat → Int32} {ff : Nat → Nat → Int32} {old sz len : Nat} {tx : Nat → Int32} {hsn thr : Int32} {M : va_W} (hM : RS G ob f sf ff old sz len tx hsn thr M) (hR : PR B f sf ff old sz len tx hsn) (hB : B < 700000000) : Met l yX6_unload wsX6_unload ({ frames := 2, cells := 0, slots := 0, locals := 47 }) (PJ [.ref ob] G (fun H => va_P G.1 vwCl M H ∧ va_D (fun _ => True) M)) (MV (some (.int (unC f))) (fun H => ∃ M', RS G ob (fUnl f) sf (rgS ff (hAt old sz) f) (hOld old sz) (svM sz) len tx hsn (nI 0) M' ∧ va_P G.1 vwCl M' H ∧ va_D (inW M) M') (inW M)) 0 0 (inW M) := by
  obtain ⟨a1, a2, a3, a4, a5, th, pa, sn, spot, bad, lt, one, two, wh, hash, rfl, hsr, hpr⟩ := hM
  obtain ⟨ho, hos, hof, hold, hz, htx, hk01⟩ := hR
  have hs := okf_shp (by omega) ho
  have hsS := okf_shp (by omega) hos
  have heok := eR_ok htx
  have hrt := rR_le (nn tx) len
  refine liftN (c_X6_unload_ok l G ob a1 a2 a3 a4 a5 f th pa sn tx sz len spot hsn thr bad lt one two wh hash hs hz) (fun a s h => ⟨h.1, h.2.1, h.2.2.2⟩) (fun H hb => ?_)
  obtain ⟨hP1, hD1⟩ := hb
  exact ⟨_, hP1, hD1, ⟨_, _, _, _, _, _, _, _, _, _, _, _, _, _, _,  rfl, hsr, (sav_rel hold hz hpr)⟩⟩

set_option maxHeartbeats 4000000 in
set_option maxRecDepth 100000 in
theorem MX_cross_ok (l : Launch) (G : eG) {ob B : Nat} {f sf : Nat → Int32} {ff : Nat → Nat → Int32} {old sz len : Nat} {tx : Nat → Int32} {hsn thr : Int32} {M : va_W} (hM : RS G ob f sf ff old sz len tx hsn thr M) (hR : PR B f sf ff old sz len tx hsn) (hB : B < 700000000) (hc : Cro f) (hr0 : fRsn f = 0) : Met l yX6_cross wsX6_cross ({ frames := 6, cells := 0, slots := 0, locals := 129 }) (PJ [.ref ob] G (fun H => va_P G.1 vwCl M H ∧ va_D (fun _ => True) M)) (MV (some (.int (nI (fHrs f)))) (fun H => ∃ M', RS G ob (fCrs f) sf (rgS ff (hAt old sz) f) (hOld old sz) (svM sz) len tx hsn (nI 0) M' ∧ va_P G.1 vwCl M' H ∧ va_D (inW M) M') (inW M)) 0 0 (inW M) := by
  obtain ⟨a1, a2, a3, a4, a5, th, pa, sn, spot, bad, lt, one, two, wh, hash, rfl, hsr, hpr⟩ := hM
  obtain ⟨ho, hos, hof, hold, hz, htx, hk01⟩ := hR
  have hs := okf_shp (by omega) ho
  have hsS := okf_shp (by omega) hos
  have heok := eR_ok htx
  have hrt := rR_le (nn tx) len
  refine liftN (c_X6_cross_ok l G ob a1 a2 a3 a4 a5 f th pa sn tx sz len spot hsn thr bad lt one two wh hash hs hc hz hr0) (fun a s h => ⟨h.1, h.2.1, h.2.2.2⟩) (fun H hb => ?_)
  obtain ⟨hP1, hD1⟩ := hb
  exact ⟨_, hP1, hD1, ⟨_, _, _, _, _, _, _, _, _, _, _, _, _, _, _,  rfl, hsr, (sav_rel hold hz hpr)⟩⟩

set_option maxHeartbeats 4000000 in
set_option maxRecDepth 100000 in
theorem MX_cross_e1 (l : Launch) (G : eG) {ob B : Nat} {f sf : Nat → Int32} {ff : Nat → Nat → Int32} {old sz len : Nat} {tx : Nat → Int32} {hsn thr : Int32} {M : va_W} (hM : RS G ob f sf ff old sz len tx hsn thr M) (hR : PR B f sf ff old sz len tx hsn) (hB : B < 700000000) (hr0 : ¬ fRsn f = 0) : Met l yX6_cross wsX6_cross ({ frames := 6, cells := 0, slots := 0, locals := 129 }) (PJ [.ref ob] G (fun H => va_P G.1 vwCl M H ∧ va_D (fun _ => True) M)) (MV (some (.int (nI 0))) (fun H => ∃ M', RS G ob f sf ff old sz len tx hsn (nI 1) M' ∧ va_P G.1 vwCl M' H ∧ va_D (inW M) M') (inW M)) 0 0 (inW M) := by
  obtain ⟨a1, a2, a3, a4, a5, th, pa, sn, spot, bad, lt, one, two, wh, hash, rfl, hsr, hpr⟩ := hM
  obtain ⟨ho, hos, hof, hold, hz, htx, hk01⟩ := hR
  have hs := okf_shp (by omega) ho
  have hsS := okf_shp (by omega) hos
  have heok := eR_ok htx
  have hrt := rR_le (nn tx) len
  refine liftN (c_X6_cross_e1 l G ob a1 a2 a3 a4 a5 f th pa sn tx sz len spot hsn thr bad lt one two wh hash hs hr0) (fun a s h => ⟨h.1, h.2.1, h.2.2.2⟩) (fun H hb => ?_)
  obtain ⟨hP1, hD1⟩ := hb
  exact ⟨_, hP1, hD1, ⟨_, _, _, _, _, _, _, _, _, _, _, _, _, _, _,  rfl, hsr, hpr⟩⟩

set_option maxHeartbeats 4000000 in
set_option maxRecDepth 100000 in
theorem MX_pass_ok (l : Launch) (G : eG) {ob B : Nat} {f sf : Nat → Int32} {ff : Nat → Nat → Int32} {old sz len : Nat} {tx : Nat → Int32} {hsn thr : Int32} {M : va_W} (hM : RS G ob f sf ff old sz len tx hsn thr M) (hR : PR B f sf ff old sz len tx hsn) (hB : B < 700000000) (h : Nat) (h1 : 1 ≤ h) (h2 : h ≤ 100) : Met l yX6_pass wsX6_pass ({ frames := 2, cells := 0, slots := 0, locals := 45 }) (PJ [.ref ob, .int (nI h)] G (fun H => va_P G.1 vwCl M H ∧ va_D (fun _ => True) M)) (MV (some (.int (f 50 + nI h))) (fun H => ∃ M', RS G ob (fPas f (nI h)) sf (rgS ff (hAt old sz) f) (hOld old sz) (svM sz) len tx hsn (nI 0) M' ∧ va_P G.1 vwCl M' H ∧ va_D (inW M) M') (inW M)) 0 0 (inW M) := by
  obtain ⟨a1, a2, a3, a4, a5, th, pa, sn, spot, bad, lt, one, two, wh, hash, rfl, hsr, hpr⟩ := hM
  obtain ⟨ho, hos, hof, hold, hz, htx, hk01⟩ := hR
  have hs := okf_shp (by omega) ho
  have hsS := okf_shp (by omega) hos
  have heok := eR_ok htx
  have hrt := rR_le (nn tx) len
  refine liftN (c_X6_pass_ok l G ob a1 a2 a3 a4 a5 f th pa sn tx sz len spot hsn thr bad lt one two wh hash hz h h1 h2) (fun a s h => ⟨h.1, h.2.1, h.2.2.2⟩) (fun H hb => ?_)
  obtain ⟨hP1, hD1⟩ := hb
  exact ⟨_, hP1, hD1, ⟨_, _, _, _, _, _, _, _, _, _, _, _, _, _, _,  rfl, hsr, (sav_rel hold hz hpr)⟩⟩

set_option maxHeartbeats 4000000 in
set_option maxRecDepth 100000 in
theorem MX_pass_e1 (l : Launch) (G : eG) {ob B : Nat} {f sf : Nat → Int32} {ff : Nat → Nat → Int32} {old sz len : Nat} {tx : Nat → Int32} {hsn thr : Int32} {M : va_W} (hM : RS G ob f sf ff old sz len tx hsn thr M) (hR : PR B f sf ff old sz len tx hsn) (hB : B < 700000000) (p0 : Int32) (hNo : ¬ (nI 1 ≤ p0 ∧ p0 ≤ nI 100)) : Met l yX6_pass wsX6_pass ({ frames := 1, cells := 0, slots := 0, locals := 22 }) (PJ [.ref ob, .int p0] G (fun H => va_P G.1 vwCl M H ∧ va_D (fun _ => True) M)) (MV (some (.int (nI 0))) (fun H => ∃ M', RS G ob f sf ff old sz len tx hsn (nI 1) M' ∧ va_P G.1 vwCl M' H ∧ va_D (inW M) M') (inW M)) 0 0 (inW M) := by
  obtain ⟨a1, a2, a3, a4, a5, th, pa, sn, spot, bad, lt, one, two, wh, hash, rfl, hsr, hpr⟩ := hM
  obtain ⟨ho, hos, hof, hold, hz, htx, hk01⟩ := hR
  have hs := okf_shp (by omega) ho
  have hsS := okf_shp (by omega) hos
  have heok := eR_ok htx
  have hrt := rR_le (nn tx) len
  refine liftN (c_X6_pass_e1 l G ob a1 a2 a3 a4 a5 f th pa sn tx sz len spot hsn thr bad lt one two wh hash p0 hNo) (fun a s h => ⟨h.1, h.2.1, h.2.2.2⟩) (fun H hb => ?_)
  obtain ⟨hP1, hD1⟩ := hb
  exact ⟨_, hP1, hD1, ⟨_, _, _, _, _, _, _, _, _, _, _, _, _, _, _,  rfl, hsr, hpr⟩⟩

set_option maxHeartbeats 4000000 in
set_option maxRecDepth 100000 in
theorem MX_draw_ok (l : Launch) (G : eG) {ob B : Nat} {f sf : Nat → Int32} {ff : Nat → Nat → Int32} {old sz len : Nat} {tx : Nat → Int32} {hsn thr : Int32} {M : va_W} (hM : RS G ob f sf ff old sz len tx hsn thr M) (hR : PR B f sf ff old sz len tx hsn) (hB : B < 700000000) (hd : rg f 49 40) (d : Nat) (h1 : 1 ≤ d) (h2 : d ≤ 5) (h3 : d ≤ nn f 49) : Met l yX6_draw wsX6_draw ({ frames := 3, cells := 0, slots := 0, locals := 64 }) (PJ [.ref ob, .int (nI d)] G (fun H => va_P G.1 vwCl M H ∧ va_D (fun _ => True) M)) (MV (some (.int (f 49 - nI d))) (fun H => ∃ M', RS G ob (fDrw f d) sf (rgS ff (hAt old sz) f) (hOld old sz) (svM sz) len tx hsn (nI 0) M' ∧ va_P G.1 vwCl M' H ∧ va_D (inW M) M') (inW M)) 0 0 (inW M) := by
  obtain ⟨a1, a2, a3, a4, a5, th, pa, sn, spot, bad, lt, one, two, wh, hash, rfl, hsr, hpr⟩ := hM
  obtain ⟨ho, hos, hof, hold, hz, htx, hk01⟩ := hR
  have hs := okf_shp (by omega) ho
  have hsS := okf_shp (by omega) hos
  have heok := eR_ok htx
  have hrt := rR_le (nn tx) len
  refine liftN (c_X6_draw_ok l G ob a1 a2 a3 a4 a5 f th pa sn tx sz len spot hsn thr bad lt one two wh hash hz hd d h1 h2 h3) (fun a s h => ⟨h.1, h.2.1, h.2.2.2⟩) (fun H hb => ?_)
  obtain ⟨hP1, hD1⟩ := hb
  exact ⟨_, hP1, hD1, ⟨_, _, _, _, _, _, _, _, _, _, _, _, _, _, _,  rfl, hsr, (sav_rel hold hz hpr)⟩⟩

set_option maxHeartbeats 4000000 in
set_option maxRecDepth 100000 in
theorem MX_draw_e1 (l : Launch) (G : eG) {ob B : Nat} {f sf : Nat → Int32} {ff : Nat → Nat → Int32} {old sz len : Nat} {tx : Nat → Int32} {hsn thr : Int32} {M : va_W} (hM : RS G ob f sf ff old sz len tx hsn thr M) (hR : PR B f sf ff old sz len tx hsn) (hB : B < 700000000) (p0 : Int32) (hNo : ¬ (nI 1 ≤ p0 ∧ p0 ≤ nI 5)) : Met l yX6_draw wsX6_draw ({ frames := 1, cells := 0, slots := 0, locals := 22 }) (PJ [.ref ob, .int p0] G (fun H => va_P G.1 vwCl M H ∧ va_D (fun _ => True) M)) (MV (some (.int (nI 0))) (fun H => ∃ M', RS G ob f sf ff old sz len tx hsn (nI 1) M' ∧ va_P G.1 vwCl M' H ∧ va_D (inW M) M') (inW M)) 0 0 (inW M) := by
  obtain ⟨a1, a2, a3, a4, a5, th, pa, sn, spot, bad, lt, one, two, wh, hash, rfl, hsr, hpr⟩ := hM
  obtain ⟨ho, hos, hof, hold, hz, htx, hk01⟩ := hR
  have hs := okf_shp (by omega) ho
  have hsS := okf_shp (by omega) hos
  have heok := eR_ok htx
  have hrt := rR_le (nn tx) len
  refine liftN (c_X6_draw_e1 l G ob a1 a2 a3 a4 a5 f th pa sn tx sz len spot hsn thr bad lt one two wh hash p0 hNo) (fun a s h => ⟨h.1, h.2.1, h.2.2.2⟩) (fun H hb => ?_)
  obtain ⟨hP1, hD1⟩ := hb
  exact ⟨_, hP1, hD1, ⟨_, _, _, _, _, _, _, _, _, _, _, _, _, _, _,  rfl, hsr, hpr⟩⟩

set_option maxHeartbeats 4000000 in
set_option maxRecDepth 100000 in
theorem MX_draw_e2 (l : Launch) (G : eG) {ob B : Nat} {f sf : Nat → Int32} {ff : Nat → Nat → Int32} {old sz len : Nat} {tx : Nat → Int32} {hsn thr : Int32} {M : va_W} (hM : RS G ob f sf ff old sz len tx hsn thr M) (hR : PR B f sf ff old sz len tx hsn) (hB : B < 700000000) (hd : rg f 49 40) (d : Nat) (h1 : 1 ≤ d) (h2 : d ≤ 5) (h3 : nn f 49 < d) : Met l yX6_draw wsX6_draw ({ frames := 1, cells := 0, slots := 0, locals := 22 }) (PJ [.ref ob, .int (nI d)] G (fun H => va_P G.1 vwCl M H ∧ va_D (fun _ => True) M)) (MV (some (.int (nI 0))) (fun H => ∃ M', RS G ob f sf ff old sz len tx hsn (nI 2) M' ∧ va_P G.1 vwCl M' H ∧ va_D (inW M) M') (inW M)) 0 0 (inW M) := by
  obtain ⟨a1, a2, a3, a4, a5, th, pa, sn, spot, bad, lt, one, two, wh, hash, rfl, hsr, hpr⟩ := hM
  obtain ⟨ho, hos, hof, hold, hz, htx, hk01⟩ := hR
  have hs := okf_shp (by omega) ho
  have hsS := okf_shp (by omega) hos
  have heok := eR_ok htx
  have hrt := rR_le (nn tx) len
  refine liftN (c_X6_draw_e2 l G ob a1 a2 a3 a4 a5 f th pa sn tx sz len spot hsn thr bad lt one two wh hash hd d h1 h2 h3) (fun a s h => ⟨h.1, h.2.1, h.2.2.2⟩) (fun H hb => ?_)
  obtain ⟨hP1, hD1⟩ := hb
  exact ⟨_, hP1, hD1, ⟨_, _, _, _, _, _, _, _, _, _, _, _, _, _, _,  rfl, hsr, hpr⟩⟩

set_option maxHeartbeats 4000000 in
set_option maxRecDepth 100000 in
theorem MX_set_ok (l : Launch) (G : eG) {ob B : Nat} {f sf : Nat → Int32} {ff : Nat → Nat → Int32} {old sz len : Nat} {tx : Nat → Int32} {hsn thr : Int32} {M : va_W} (hM : RS G ob f sf ff old sz len tx hsn thr M) (hR : PR B f sf ff old sz len tx hsn) (hB : B < 700000000) (s0 : Nat) (v : Nat) (hs3 : s0 < 3) (h1 : stLo s0 ≤ v) (h2 : v ≤ stHi s0) : Met l yX6_set wsX6_set ({ frames := 3, cells := 0, slots := 0, locals := 68 }) (PJ [.ref ob, .int (nI s0), .int (nI v)] G (fun H => va_P G.1 vwCl M H ∧ va_D (fun _ => True) M)) (MV (some (.int (f s0))) (fun H => ∃ M', RS G ob (upd f s0 (nI v)) sf (rgS ff (hAt old sz) f) (hOld old sz) (svM sz) len tx hsn (nI 0) M' ∧ va_P G.1 vwCl M' H ∧ va_D (inW M) M') (inW M)) 0 0 (inW M) := by
  obtain ⟨a1, a2, a3, a4, a5, th, pa, sn, spot, bad, lt, one, two, wh, hash, rfl, hsr, hpr⟩ := hM
  obtain ⟨ho, hos, hof, hold, hz, htx, hk01⟩ := hR
  have hs := okf_shp (by omega) ho
  have hsS := okf_shp (by omega) hos
  have heok := eR_ok htx
  have hrt := rR_le (nn tx) len
  refine liftN (c_X6_set_ok l G ob a1 a2 a3 a4 a5 f th pa sn tx sz len spot hsn thr bad lt one two wh hash hz s0 v hs3 h1 h2) (fun a s h => ⟨h.1, h.2.1, h.2.2.2⟩) (fun H hb => ?_)
  obtain ⟨hP1, hD1⟩ := hb
  exact ⟨_, hP1, hD1, ⟨_, _, _, _, _, _, _, _, _, _, _, _, _, _, _,  rfl, hsr, (sav_rel hold hz hpr)⟩⟩

set_option maxHeartbeats 4000000 in
set_option maxRecDepth 100000 in
theorem MX_set_e1 (l : Launch) (G : eG) {ob B : Nat} {f sf : Nat → Int32} {ff : Nat → Nat → Int32} {old sz len : Nat} {tx : Nat → Int32} {hsn thr : Int32} {M : va_W} (hM : RS G ob f sf ff old sz len tx hsn thr M) (hR : PR B f sf ff old sz len tx hsn) (hB : B < 700000000) (p0 : Int32) (p1 : Int32) (hNo : ¬ (nI 0 ≤ p0 ∧ p0 ≤ nI 2)) : Met l yX6_set wsX6_set ({ frames := 1, cells := 0, slots := 0, locals := 22 }) (PJ [.ref ob, .int p0, .int p1] G (fun H => va_P G.1 vwCl M H ∧ va_D (fun _ => True) M)) (MV (some (.int (nI 0))) (fun H => ∃ M', RS G ob f sf ff old sz len tx hsn (nI 1) M' ∧ va_P G.1 vwCl M' H ∧ va_D (inW M) M') (inW M)) 0 0 (inW M) := by
  obtain ⟨a1, a2, a3, a4, a5, th, pa, sn, spot, bad, lt, one, two, wh, hash, rfl, hsr, hpr⟩ := hM
  obtain ⟨ho, hos, hof, hold, hz, htx, hk01⟩ := hR
  have hs := okf_shp (by omega) ho
  have hsS := okf_shp (by omega) hos
  have heok := eR_ok htx
  have hrt := rR_le (nn tx) len
  refine liftN (c_X6_set_e1 l G ob a1 a2 a3 a4 a5 f th pa sn tx sz len spot hsn thr bad lt one two wh hash p0 p1 hNo) (fun a s h => ⟨h.1, h.2.1, h.2.2.2⟩) (fun H hb => ?_)
  obtain ⟨hP1, hD1⟩ := hb
  exact ⟨_, hP1, hD1, ⟨_, _, _, _, _, _, _, _, _, _, _, _, _, _, _,  rfl, hsr, hpr⟩⟩

set_option maxHeartbeats 4000000 in
set_option maxRecDepth 100000 in
theorem MX_set_e2 (l : Launch) (G : eG) {ob B : Nat} {f sf : Nat → Int32} {ff : Nat → Nat → Int32} {old sz len : Nat} {tx : Nat → Int32} {hsn thr : Int32} {M : va_W} (hM : RS G ob f sf ff old sz len tx hsn thr M) (hR : PR B f sf ff old sz len tx hsn) (hB : B < 700000000) (s0 : Nat) (p1 : Int32) (hs3 : s0 < 3) (hNo : ¬ (nI (stLo s0) ≤ p1 ∧ p1 ≤ nI (stHi s0))) : Met l yX6_set wsX6_set ({ frames := 1, cells := 0, slots := 0, locals := 22 }) (PJ [.ref ob, .int (nI s0), .int p1] G (fun H => va_P G.1 vwCl M H ∧ va_D (fun _ => True) M)) (MV (some (.int (nI 0))) (fun H => ∃ M', RS G ob f sf ff old sz len tx hsn (nI 2) M' ∧ va_P G.1 vwCl M' H ∧ va_D (inW M) M') (inW M)) 0 0 (inW M) := by
  obtain ⟨a1, a2, a3, a4, a5, th, pa, sn, spot, bad, lt, one, two, wh, hash, rfl, hsr, hpr⟩ := hM
  obtain ⟨ho, hos, hof, hold, hz, htx, hk01⟩ := hR
  have hs := okf_shp (by omega) ho
  have hsS := okf_shp (by omega) hos
  have heok := eR_ok htx
  have hrt := rR_le (nn tx) len
  refine liftN (c_X6_set_e2 l G ob a1 a2 a3 a4 a5 f th pa sn tx sz len spot hsn thr bad lt one two wh hash s0 p1 hs3 hNo) (fun a s h => ⟨h.1, h.2.1, h.2.2.2⟩) (fun H hb => ?_)
  obtain ⟨hP1, hD1⟩ := hb
  exact ⟨_, hP1, hD1, ⟨_, _, _, _, _, _, _, _, _, _, _, _, _, _, _,  rfl, hsr, hpr⟩⟩

set_option maxHeartbeats 4000000 in
set_option maxRecDepth 100000 in
theorem MX_append_ok (l : Launch) (G : eG) {ob B : Nat} {f sf : Nat → Int32} {ff : Nat → Nat → Int32} {old sz len : Nat} {tx : Nat → Int32} {hsn thr : Int32} {M : va_W} (hM : RS G ob f sf ff old sz len tx hsn thr M) (hR : PR B f sf ff old sz len tx hsn) (hB : B < 700000000) (q : Nat) (h1 : 33 ≤ q) (h2 : q ≤ 126) (hlen : len < 60) : Met l yX6_append wsX6_append ({ frames := 1, cells := 0, slots := 0, locals := 22 }) (PJ [.ref ob, .int (nI q)] G (fun H => va_P G.1 vwCl M H ∧ va_D (fun _ => True) M)) (MV (some (.int (nI (len + 1)))) (fun H => ∃ M', RS G ob f sf ff old sz (len + 1) (upd tx len (nI q)) hsn (nI 0) M' ∧ va_P G.1 vwCl M' H ∧ va_D (inW M) M') (inW M)) 0 0 (inW M) := by
  obtain ⟨a1, a2, a3, a4, a5, th, pa, sn, spot, bad, lt, one, two, wh, hash, rfl, hsr, hpr⟩ := hM
  obtain ⟨ho, hos, hof, hold, hz, htx, hk01⟩ := hR
  have hs := okf_shp (by omega) ho
  have hsS := okf_shp (by omega) hos
  have heok := eR_ok htx
  have hrt := rR_le (nn tx) len
  refine liftN (c_X6_append_ok l G ob a1 a2 a3 a4 a5 f th pa sn tx sz len spot hsn thr bad lt one two wh hash q h1 h2 hlen) (fun a s h => ⟨h.1, h.2.1, h.2.2.2⟩) (fun H hb => ?_)
  obtain ⟨hP1, hD1⟩ := hb
  exact ⟨_, hP1, hD1, ⟨_, _, _, _, _, _, _, _, _, _, _, _, _, _, _,  rfl, hsr, hpr⟩⟩

set_option maxHeartbeats 4000000 in
set_option maxRecDepth 100000 in
theorem MX_append_e1 (l : Launch) (G : eG) {ob B : Nat} {f sf : Nat → Int32} {ff : Nat → Nat → Int32} {old sz len : Nat} {tx : Nat → Int32} {hsn thr : Int32} {M : va_W} (hM : RS G ob f sf ff old sz len tx hsn thr M) (hR : PR B f sf ff old sz len tx hsn) (hB : B < 700000000) (p0 : Int32) (hNo : ¬ (nI 33 ≤ p0 ∧ p0 ≤ nI 126)) : Met l yX6_append wsX6_append ({ frames := 1, cells := 0, slots := 0, locals := 22 }) (PJ [.ref ob, .int p0] G (fun H => va_P G.1 vwCl M H ∧ va_D (fun _ => True) M)) (MV (some (.int (nI 0))) (fun H => ∃ M', RS G ob f sf ff old sz len tx hsn (nI 1) M' ∧ va_P G.1 vwCl M' H ∧ va_D (inW M) M') (inW M)) 0 0 (inW M) := by
  obtain ⟨a1, a2, a3, a4, a5, th, pa, sn, spot, bad, lt, one, two, wh, hash, rfl, hsr, hpr⟩ := hM
  obtain ⟨ho, hos, hof, hold, hz, htx, hk01⟩ := hR
  have hs := okf_shp (by omega) ho
  have hsS := okf_shp (by omega) hos
  have heok := eR_ok htx
  have hrt := rR_le (nn tx) len
  refine liftN (c_X6_append_e1 l G ob a1 a2 a3 a4 a5 f th pa sn tx sz len spot hsn thr bad lt one two wh hash p0 hNo) (fun a s h => ⟨h.1, h.2.1, h.2.2.2⟩) (fun H hb => ?_)
  obtain ⟨hP1, hD1⟩ := hb
  exact ⟨_, hP1, hD1, ⟨_, _, _, _, _, _, _, _, _, _, _, _, _, _, _,  rfl, hsr, hpr⟩⟩

set_option maxHeartbeats 4000000 in
set_option maxRecDepth 100000 in
theorem MX_append_e2 (l : Launch) (G : eG) {ob B : Nat} {f sf : Nat → Int32} {ff : Nat → Nat → Int32} {old sz len : Nat} {tx : Nat → Int32} {hsn thr : Int32} {M : va_W} (hM : RS G ob f sf ff old sz len tx hsn thr M) (hR : PR B f sf ff old sz len tx hsn) (hB : B < 700000000) (q : Nat) (h1 : 33 ≤ q) (h2 : q ≤ 126) (hlen : len = 60) : Met l yX6_append wsX6_append ({ frames := 1, cells := 0, slots := 0, locals := 22 }) (PJ [.ref ob, .int (nI q)] G (fun H => va_P G.1 vwCl M H ∧ va_D (fun _ => True) M)) (MV (some (.int (nI 0))) (fun H => ∃ M', RS G ob f sf ff old sz len tx hsn (nI 2) M' ∧ va_P G.1 vwCl M' H ∧ va_D (inW M) M') (inW M)) 0 0 (inW M) := by
  obtain ⟨a1, a2, a3, a4, a5, th, pa, sn, spot, bad, lt, one, two, wh, hash, rfl, hsr, hpr⟩ := hM
  obtain ⟨ho, hos, hof, hold, hz, htx, hk01⟩ := hR
  have hs := okf_shp (by omega) ho
  have hsS := okf_shp (by omega) hos
  have heok := eR_ok htx
  have hrt := rR_le (nn tx) len
  refine liftN (c_X6_append_e2 l G ob a1 a2 a3 a4 a5 f th pa sn tx sz len spot hsn thr bad lt one two wh hash q h1 h2 hlen) (fun a s h => ⟨h.1, h.2.1, h.2.2.2⟩) (fun H hb => ?_)
  obtain ⟨hP1, hD1⟩ := hb
  exact ⟨_, hP1, hD1, ⟨_, _, _, _, _, _, _, _, _, _, _, _, _, _, _,  rfl, hsr, hpr⟩⟩

set_option maxHeartbeats 4000000 in
set_option maxRecDepth 100000 in
theorem MX_clearBuffer_ok (l : Launch) (G : eG) {ob B : Nat} {f sf : Nat → Int32} {ff : Nat → Nat → Int32} {old sz len : Nat} {tx : Nat → Int32} {hsn thr : Int32} {M : va_W} (hM : RS G ob f sf ff old sz len tx hsn thr M) (hR : PR B f sf ff old sz len tx hsn) (hB : B < 700000000) : Met l yX6_clearBuffer wsX6_clearBuffer ({ frames := 0, cells := 0, slots := 0, locals := 0 }) (PJ [.ref ob] G (fun H => va_P G.1 vwCl M H ∧ va_D (fun _ => True) M)) (MV (some (.int (nI len))) (fun H => ∃ M', RS G ob f sf ff old sz 0 tx hsn (nI 0) M' ∧ va_P G.1 vwCl M' H ∧ va_D (inW M) M') (inW M)) 0 0 (inW M) := by
  obtain ⟨a1, a2, a3, a4, a5, th, pa, sn, spot, bad, lt, one, two, wh, hash, rfl, hsr, hpr⟩ := hM
  obtain ⟨ho, hos, hof, hold, hz, htx, hk01⟩ := hR
  have hs := okf_shp (by omega) ho
  have hsS := okf_shp (by omega) hos
  have heok := eR_ok htx
  have hrt := rR_le (nn tx) len
  refine liftN (c_X6_clearBuffer_ok l G ob a1 a2 a3 a4 a5 f th pa sn tx sz len spot hsn thr bad lt one two wh hash) (fun a s h => ⟨h.1, h.2.1, h.2.2.2⟩) (fun H hb => ?_)
  obtain ⟨hP1, hD1⟩ := hb
  exact ⟨_, hP1, hD1, ⟨_, _, _, _, _, _, _, _, _, _, _, _, _, _, _,  rfl, hsr, hpr⟩⟩

set_option maxHeartbeats 4000000 in
set_option maxRecDepth 100000 in
theorem MX_firstError_ok (l : Launch) (G : eG) {ob B : Nat} {f sf : Nat → Int32} {ff : Nat → Nat → Int32} {old sz len : Nat} {tx : Nat → Int32} {hsn thr : Int32} {M : va_W} (hM : RS G ob f sf ff old sz len tx hsn thr M) (hR : PR B f sf ff old sz len tx hsn) (hB : B < 700000000) : Met l yX6_firstError wsX6_firstError ({ frames := 6, cells := 0, slots := 0, locals := 246 }) (PJ [.ref ob] G (fun H => va_P G.1 vwCl M H ∧ va_D (fun _ => True) M)) (MV (some (.int (nI (feR (nn tx) len)))) (fun H => ∃ M', RS G ob f sf ff old sz len tx hsn (nI 0) M' ∧ va_P G.1 vwCl M' H ∧ va_D (inW M) M') (inW M)) 0 0 (inW M) := by
  obtain ⟨a1, a2, a3, a4, a5, th, pa, sn, spot, bad, lt, one, two, wh, hash, rfl, hsr, hpr⟩ := hM
  obtain ⟨ho, hos, hof, hold, hz, htx, hk01⟩ := hR
  have hs := okf_shp (by omega) ho
  have hsS := okf_shp (by omega) hos
  have heok := eR_ok htx
  have hrt := rR_le (nn tx) len
  refine liftN (c_X6_firstError_ok l G ob a1 a2 a3 a4 a5 f th pa sn tx sz len spot hsn thr bad lt one two wh hash htx) (fun a s h => ⟨h.1, h.2.1, h.2.2.2⟩) (fun H hb => ?_)
  obtain ⟨z0, z1, z2, z3, z4, z5, hP1, hD1⟩ := hb
  exact ⟨_, hP1, hD1, ⟨_, _, _, _, _, _, _, _, _, _, _, _, _, _, _,  rfl, hsr, hpr⟩⟩

set_option maxHeartbeats 4000000 in
set_option maxRecDepth 100000 in
theorem MX_obey_ok (l : Launch) (G : eG) {ob B : Nat} {f sf : Nat → Int32} {ff : Nat → Nat → Int32} {old sz len : Nat} {tx : Nat → Int32} {hsn thr : Int32} {M : va_W} (hM : RS G ob f sf ff old sz len tx hsn thr M) (hR : PR B f sf ff old sz len tx hsn) (hB : B < 700000000) (hW : pW (nn tx) len (len + 1) 0 = true) : Met l yX6_obey wsX6_obey ({ frames := 8, cells := 0, slots := 0, locals := 347 }) (PJ [.ref ob] G (fun H => va_P G.1 vwCl M H ∧ va_D (fun _ => True) M)) (MV (some (.int (nI (yC (nn tx) len len 0 f)))) (fun H => ∃ M', RS G ob (yF (nn tx) len len 0 f) sf (rgS ff (hAt old sz) f) (hOld old sz) (svM sz) 0 tx hsn (nI 0) M' ∧ va_P G.1 vwCl M' H ∧ va_D (inW M) M') (inW M)) 0 0 (inW M) := by
  obtain ⟨a1, a2, a3, a4, a5, th, pa, sn, spot, bad, lt, one, two, wh, hash, rfl, hsr, hpr⟩ := hM
  obtain ⟨ho, hos, hof, hold, hz, htx, hk01⟩ := hR
  have hs := okf_shp (by omega) ho
  have hsS := okf_shp (by omega) hos
  have heok := eR_ok htx
  have hrt := rR_le (nn tx) len
  have ey : yF (nn tx) len len 0 f = xF (nn tx) len (len + 1) 0 f := (y_x (t := nn tx) (n := len) (k := len + 1) (s := 0) (f := f) hW (Or.inl rfl) (Nat.zero_le _)).1
  have ez : yC (nn tx) len len 0 f = xC (nn tx) len (len + 1) 0 f := (y_x (t := nn tx) (n := len) (k := len + 1) (s := 0) (f := f) hW (Or.inl rfl) (Nat.zero_le _)).2
  rw [ey, ez]
  refine liftN (c_X6_obey_ok l G ob a1 a2 a3 a4 a5 f th pa sn tx sz len spot hsn thr bad lt one two wh hash htx hz B (by omega) ho (by omega) hW) (fun a s h => ⟨h.1, h.2.1, h.2.2.2⟩) (fun H hb => ?_)
  obtain ⟨z0, z1, z2, z3, z4, z5, hP1, hD1⟩ := hb
  exact ⟨_, hP1, hD1, ⟨_, _, _, _, _, _, _, _, _, _, _, _, _, _, _,  rfl, hsr, (sav_rel hold hz hpr)⟩⟩

set_option maxHeartbeats 4000000 in
set_option maxRecDepth 100000 in
theorem MX_obey_e1 (l : Launch) (G : eG) {ob B : Nat} {f sf : Nat → Int32} {ff : Nat → Nat → Int32} {old sz len : Nat} {tx : Nat → Int32} {hsn thr : Int32} {M : va_W} (hM : RS G ob f sf ff old sz len tx hsn thr M) (hR : PR B f sf ff old sz len tx hsn) (hB : B < 700000000) (hW : ¬ pW (nn tx) len (len + 1) 0 = true) : Met l yX6_obey wsX6_obey ({ frames := 6, cells := 0, slots := 0, locals := 246 }) (PJ [.ref ob] G (fun H => va_P G.1 vwCl M H ∧ va_D (fun _ => True) M)) (MV (some (.int (nI 0))) (fun H => ∃ M', RS G ob f sf ff old sz len tx hsn (nI 1) M' ∧ va_P G.1 vwCl M' H ∧ va_D (inW M) M') (inW M)) 0 0 (inW M) := by
  obtain ⟨a1, a2, a3, a4, a5, th, pa, sn, spot, bad, lt, one, two, wh, hash, rfl, hsr, hpr⟩ := hM
  obtain ⟨ho, hos, hof, hold, hz, htx, hk01⟩ := hR
  have hs := okf_shp (by omega) ho
  have hsS := okf_shp (by omega) hos
  have heok := eR_ok htx
  have hrt := rR_le (nn tx) len
  refine liftN (c_X6_obey_e1 l G ob a1 a2 a3 a4 a5 f th pa sn tx sz len spot hsn thr bad lt one two wh hash htx hW) (fun a s h => ⟨h.1, h.2.1, h.2.2.2⟩) (fun H hb => ?_)
  obtain ⟨z0, z1, z2, z3, z4, z5, hP1, hD1⟩ := hb
  exact ⟨_, hP1, hD1, ⟨_, _, _, _, _, _, _, _, _, _, _, _, _, _, _,  rfl, hsr, hpr⟩⟩

set_option maxHeartbeats 4000000 in
set_option maxRecDepth 100000 in
theorem MX_keep_ok (l : Launch) (G : eG) {ob B : Nat} {f sf : Nat → Int32} {ff : Nat → Nat → Int32} {old sz len : Nat} {tx : Nat → Int32} {hsn thr : Int32} {M : va_W} (hM : RS G ob f sf ff old sz len tx hsn thr M) (hR : PR B f sf ff old sz len tx hsn) (hB : B < 700000000) : Met l yX6_keep wsX6_keep ({ frames := 1, cells := 0, slots := 0, locals := 24 }) (PJ [.ref ob] G (fun H => va_P G.1 vwCl M H ∧ va_D (fun _ => True) M)) (MV (some (.int (f 50))) (fun H => ∃ M', RS G ob f f ff old sz len tx (nI 1) (nI 0) M' ∧ va_P G.1 vwCl M' H ∧ va_D (inW M) M') (inW M)) 0 0 (inW M) := by
  obtain ⟨a1, a2, a3, a4, a5, th, pa, sn, spot, bad, lt, one, two, wh, hash, rfl, hsr, hpr⟩ := hM
  obtain ⟨ho, hos, hof, hold, hz, htx, hk01⟩ := hR
  have hs := okf_shp (by omega) ho
  have hsS := okf_shp (by omega) hos
  have heok := eR_ok htx
  have hrt := rR_le (nn tx) len
  refine liftN (c_X6_keep_ok l G ob a1 a2 a3 a4 a5 f th pa sn tx sz len spot hsn thr bad lt one two wh hash) (fun a s h => ⟨h.1, h.2.1, h.2.2.2⟩) (fun H hb => ?_)
  obtain ⟨hP1, hD1⟩ := hb
  exact ⟨_, hP1, hD1, ⟨_, _, _, _, _, _, _, _, _, _, _, _, _, _, _,  rfl, (fun _ _ _ => rfl), hpr⟩⟩

set_option maxHeartbeats 4000000 in
set_option maxRecDepth 100000 in
theorem MX_goBack_ok (l : Launch) (G : eG) {ob B : Nat} {f sf : Nat → Int32} {ff : Nat → Nat → Int32} {old sz len : Nat} {tx : Nat → Int32} {thr : Int32} {M : va_W} (hM : RS G ob f sf ff old sz len tx (nI 1) thr M) (hR : PR B f sf ff old sz len tx (nI 1)) (hB : B < 700000000) : Met l yX6_goBack wsX6_goBack ({ frames := 2, cells := 0, slots := 0, locals := 45 }) (PJ [.ref ob] G (fun H => va_P G.1 vwCl M H ∧ va_D (fun _ => True) M)) (MV (some (.int (sf 50))) (fun H => ∃ M', RS G ob sf sf (rgS ff (hAt old sz) f) (hOld old sz) (svM sz) len tx (nI 1) (nI 0) M' ∧ va_P G.1 vwCl M' H ∧ va_D (inW M) M') (inW M)) 0 0 (inW M) := by
  obtain ⟨a1, a2, a3, a4, a5, th, pa, sn, spot, bad, lt, one, two, wh, hash, rfl, hsr, hpr⟩ := hM
  obtain ⟨ho, hos, hof, hold, hz, htx, hk01⟩ := hR
  have hs := okf_shp (by omega) ho
  have hsS := okf_shp (by omega) hos
  have heok := eR_ok htx
  have hrt := rR_le (nn tx) len
  have hsr9 := hsr rfl
  rw [show sf 50 = sn 50 from (hsr9 50 (by omega)).symm]
  refine liftN (c_X6_goBack_ok l G ob a1 a2 a3 a4 a5 f th pa sn tx sz len spot (nI 1) thr bad lt one two wh hash hz) (fun a s h => ⟨h.1, h.2.1, h.2.2.2⟩) (fun H hb => ?_)
  obtain ⟨hP1, hD1⟩ := hb
  replace hP1 := P_ext (g := sf) 1 rfl rfl hsr9 hP1
  replace hD1 := va_D.set (p := 1) (e := .inl (G.2.1, 97, .inl sf)) hD1 rfl
  exact ⟨_, hP1, hD1, ⟨_, _, _, _, _, _, _, _, _, _, _, _, _, _, _,  rfl, hsr, (sav_rel hold hz hpr)⟩⟩

set_option maxHeartbeats 4000000 in
set_option maxRecDepth 100000 in
theorem MX_goBack_e1 (l : Launch) (G : eG) {ob B : Nat} {f sf : Nat → Int32} {ff : Nat → Nat → Int32} {old sz len : Nat} {tx : Nat → Int32} {thr : Int32} {M : va_W} (hM : RS G ob f sf ff old sz len tx (nI 0) thr M) (hR : PR B f sf ff old sz len tx (nI 0)) (hB : B < 700000000) : Met l yX6_goBack wsX6_goBack ({ frames := 1, cells := 0, slots := 0, locals := 21 }) (PJ [.ref ob] G (fun H => va_P G.1 vwCl M H ∧ va_D (fun _ => True) M)) (MV (some (.int (nI 0))) (fun H => ∃ M', RS G ob f sf ff old sz len tx (nI 0) (nI 1) M' ∧ va_P G.1 vwCl M' H ∧ va_D (inW M) M') (inW M)) 0 0 (inW M) := by
  obtain ⟨a1, a2, a3, a4, a5, th, pa, sn, spot, bad, lt, one, two, wh, hash, rfl, hsr, hpr⟩ := hM
  obtain ⟨ho, hos, hof, hold, hz, htx, hk01⟩ := hR
  have hs := okf_shp (by omega) ho
  have hsS := okf_shp (by omega) hos
  have heok := eR_ok htx
  have hrt := rR_le (nn tx) len
  refine liftN (c_X6_goBack_e1 l G ob a1 a2 a3 a4 a5 f th pa sn tx sz len spot (nI 0) thr bad lt one two wh hash) (fun a s h => ⟨h.1, h.2.1, h.2.2.2⟩) (fun H hb => ?_)
  obtain ⟨hP1, hD1⟩ := hb
  exact ⟨_, hP1, hD1, ⟨_, _, _, _, _, _, _, _, _, _, _, _, _, _, _,  rfl, hsr, hpr⟩⟩

set_option maxHeartbeats 4000000 in
set_option maxRecDepth 100000 in
theorem MX_undo_ok (l : Launch) (G : eG) {ob B : Nat} {f sf : Nat → Int32} {ff : Nat → Nat → Int32} {old sz len : Nat} {tx : Nat → Int32} {hsn thr : Int32} {M : va_W} (hM : RS G ob f sf ff old sz len tx hsn thr M) (hR : PR B f sf ff old sz len tx hsn) (hB : B < 700000000) (hn1 : 1 ≤ sz) : Met l yX6_undo wsX6_undo ({ frames := 1, cells := 0, slots := 0, locals := 24 }) (PJ [.ref ob] G (fun H => va_P G.1 vwCl M H ∧ va_D (fun _ => True) M)) (MV (some (.int (nI (sz - 1)))) (fun H => ∃ M', RS G ob (ff (hBk old sz)) sf ff old (sz - 1) len tx hsn (nI 0) M' ∧ va_P G.1 vwCl M' H ∧ va_D (inW M) M') (inW M)) 0 0 (inW M) := by
  obtain ⟨a1, a2, a3, a4, a5, th, pa, sn, spot, bad, lt, one, two, wh, hash, rfl, hsr, hpr⟩ := hM
  obtain ⟨ho, hos, hof, hold, hz, htx, hk01⟩ := hR
  have hs := okf_shp (by omega) ho
  have hsS := okf_shp (by omega) hos
  have heok := eR_ok htx
  have hrt := rR_le (nn tx) len
  refine liftN (c_X6_undo_ok l G ob a1 a2 a3 a4 a5 f th pa sn tx sz len spot hsn thr bad lt one two wh hash hn1 hz) (fun a s h => ⟨h.1, h.2.1, h.2.2.2⟩) (fun H hb => ?_)
  obtain ⟨hP1, hD1⟩ := hb
  have hur : ∀ i, i < 97 → blk pa (sz - 1) i = ff (hBk old sz) i := fun i hi => hpr (sz - 1) (by omega) i hi
  replace hP1 := P_ext (g := ff (hBk old sz)) 1 rfl rfl hur hP1
  replace hD1 := va_D.set (p := 1) (e := .inl (G.2.1, 97, .inl (ff (hBk old sz)))) hD1 rfl
  exact ⟨_, hP1, hD1, ⟨_, _, _, _, _, _, _, _, _, _, _, _, _, _, _,  rfl, hsr, (fun j hj i hi => hpr j (by omega) i hi)⟩⟩

set_option maxHeartbeats 4000000 in
set_option maxRecDepth 100000 in
theorem MX_undo_e1 (l : Launch) (G : eG) {ob B : Nat} {f sf : Nat → Int32} {ff : Nat → Nat → Int32} {old sz len : Nat} {tx : Nat → Int32} {hsn thr : Int32} {M : va_W} (hM : RS G ob f sf ff old sz len tx hsn thr M) (hR : PR B f sf ff old sz len tx hsn) (hB : B < 700000000) (hn1 : sz = 0) : Met l yX6_undo wsX6_undo ({ frames := 1, cells := 0, slots := 0, locals := 21 }) (PJ [.ref ob] G (fun H => va_P G.1 vwCl M H ∧ va_D (fun _ => True) M)) (MV (some (.int (nI 0))) (fun H => ∃ M', RS G ob f sf ff old sz len tx hsn (nI 1) M' ∧ va_P G.1 vwCl M' H ∧ va_D (inW M) M') (inW M)) 0 0 (inW M) := by
  obtain ⟨a1, a2, a3, a4, a5, th, pa, sn, spot, bad, lt, one, two, wh, hash, rfl, hsr, hpr⟩ := hM
  obtain ⟨ho, hos, hof, hold, hz, htx, hk01⟩ := hR
  have hs := okf_shp (by omega) ho
  have hsS := okf_shp (by omega) hos
  have heok := eR_ok htx
  have hrt := rR_le (nn tx) len
  refine liftN (c_X6_undo_e1 l G ob a1 a2 a3 a4 a5 f th pa sn tx sz len spot hsn thr bad lt one two wh hash hn1) (fun a s h => ⟨h.1, h.2.1, h.2.2.2⟩) (fun H hb => ?_)
  obtain ⟨hP1, hD1⟩ := hb
  exact ⟨_, hP1, hD1, ⟨_, _, _, _, _, _, _, _, _, _, _, _, _, _, _,  rfl, hsr, hpr⟩⟩

set_option maxHeartbeats 4000000 in
set_option maxRecDepth 100000 in
theorem MX_section_ok (l : Launch) (G : eG) {ob B : Nat} {f sf : Nat → Int32} {ff : Nat → Nat → Int32} {old sz len : Nat} {tx : Nat → Int32} {hsn thr : Int32} {M : va_W} (hM : RS G ob f sf ff old sz len tx hsn thr M) (hR : PR B f sf ff old sz len tx hsn) (hB : B < 700000000) (k : Nat) (w : Nat) (hk : k < 20) (hw : w < 3) : Met l yX6_section wsX6_section ({ frames := 5, cells := 0, slots := 0, locals := 109 }) (PJ [.ref ob, .int (nI k), .int (nI w)] G (fun H => va_P G.1 vwCl M H ∧ va_D (fun _ => True) M)) (MV (some (.int (fOf f k w))) (fun H => ∃ M', RS G ob f sf ff old sz len tx hsn (nI 0) M' ∧ va_P G.1 vwCl M' H ∧ va_D (inW M) M') (inW M)) 0 0 (inW M) := by
  obtain ⟨a1, a2, a3, a4, a5, th, pa, sn, spot, bad, lt, one, two, wh, hash, rfl, hsr, hpr⟩ := hM
  obtain ⟨ho, hos, hof, hold, hz, htx, hk01⟩ := hR
  have hs := okf_shp (by omega) ho
  have hsS := okf_shp (by omega) hos
  have heok := eR_ok htx
  have hrt := rR_le (nn tx) len
  refine liftN (c_X6_section_ok l G ob a1 a2 a3 a4 a5 f th pa sn tx sz len spot hsn thr bad lt one two wh hash hs k w hk hw) (fun a s h => ⟨h.1, h.2.1, h.2.2.2⟩) (fun H hb => ?_)
  obtain ⟨hP1, hD1⟩ := hb
  exact ⟨_, hP1, hD1, ⟨_, _, _, _, _, _, _, _, _, _, _, _, _, _, _,  rfl, hsr, hpr⟩⟩

set_option maxHeartbeats 4000000 in
set_option maxRecDepth 100000 in
theorem MX_section_e1 (l : Launch) (G : eG) {ob B : Nat} {f sf : Nat → Int32} {ff : Nat → Nat → Int32} {old sz len : Nat} {tx : Nat → Int32} {hsn thr : Int32} {M : va_W} (hM : RS G ob f sf ff old sz len tx hsn thr M) (hR : PR B f sf ff old sz len tx hsn) (hB : B < 700000000) (p0 : Int32) (p1 : Int32) (hNo : ¬ (nI 0 ≤ p0 ∧ p0 ≤ nI 19)) : Met l yX6_section wsX6_section ({ frames := 1, cells := 0, slots := 0, locals := 22 }) (PJ [.ref ob, .int p0, .int p1] G (fun H => va_P G.1 vwCl M H ∧ va_D (fun _ => True) M)) (MV (some (.int (nI 0))) (fun H => ∃ M', RS G ob f sf ff old sz len tx hsn (nI 1) M' ∧ va_P G.1 vwCl M' H ∧ va_D (inW M) M') (inW M)) 0 0 (inW M) := by
  obtain ⟨a1, a2, a3, a4, a5, th, pa, sn, spot, bad, lt, one, two, wh, hash, rfl, hsr, hpr⟩ := hM
  obtain ⟨ho, hos, hof, hold, hz, htx, hk01⟩ := hR
  have hs := okf_shp (by omega) ho
  have hsS := okf_shp (by omega) hos
  have heok := eR_ok htx
  have hrt := rR_le (nn tx) len
  refine liftN (c_X6_section_e1 l G ob a1 a2 a3 a4 a5 f th pa sn tx sz len spot hsn thr bad lt one two wh hash p0 p1 hNo) (fun a s h => ⟨h.1, h.2.1, h.2.2.2⟩) (fun H hb => ?_)
  obtain ⟨hP1, hD1⟩ := hb
  exact ⟨_, hP1, hD1, ⟨_, _, _, _, _, _, _, _, _, _, _, _, _, _, _,  rfl, hsr, hpr⟩⟩

set_option maxHeartbeats 4000000 in
set_option maxRecDepth 100000 in
theorem MX_section_e2 (l : Launch) (G : eG) {ob B : Nat} {f sf : Nat → Int32} {ff : Nat → Nat → Int32} {old sz len : Nat} {tx : Nat → Int32} {hsn thr : Int32} {M : va_W} (hM : RS G ob f sf ff old sz len tx hsn thr M) (hR : PR B f sf ff old sz len tx hsn) (hB : B < 700000000) (p0 : Int32) (p1 : Int32) (h1 : nI 0 ≤ p0 ∧ p0 ≤ nI 19) (hNo : ¬ (nI 0 ≤ p1 ∧ p1 ≤ nI 2)) : Met l yX6_section wsX6_section ({ frames := 1, cells := 0, slots := 0, locals := 22 }) (PJ [.ref ob, .int p0, .int p1] G (fun H => va_P G.1 vwCl M H ∧ va_D (fun _ => True) M)) (MV (some (.int (nI 0))) (fun H => ∃ M', RS G ob f sf ff old sz len tx hsn (nI 2) M' ∧ va_P G.1 vwCl M' H ∧ va_D (inW M) M') (inW M)) 0 0 (inW M) := by
  obtain ⟨a1, a2, a3, a4, a5, th, pa, sn, spot, bad, lt, one, two, wh, hash, rfl, hsr, hpr⟩ := hM
  obtain ⟨ho, hos, hof, hold, hz, htx, hk01⟩ := hR
  have hs := okf_shp (by omega) ho
  have hsS := okf_shp (by omega) hos
  have heok := eR_ok htx
  have hrt := rR_le (nn tx) len
  refine liftN (c_X6_section_e2 l G ob a1 a2 a3 a4 a5 f th pa sn tx sz len spot hsn thr bad lt one two wh hash p0 p1 h1 hNo) (fun a s h => ⟨h.1, h.2.1, h.2.2.2⟩) (fun H hb => ?_)
  obtain ⟨hP1, hD1⟩ := hb
  exact ⟨_, hP1, hD1, ⟨_, _, _, _, _, _, _, _, _, _, _, _, _, _, _,  rfl, hsr, hpr⟩⟩

set_option maxHeartbeats 4000000 in
set_option maxRecDepth 100000 in
theorem MX_waiting_in (l : Launch) (G : eG) {ob B : Nat} {f sf : Nat → Int32} {ff : Nat → Nat → Int32} {old sz len : Nat} {tx : Nat → Int32} {hsn thr : Int32} {M : va_W} (hM : RS G ob f sf ff old sz len tx hsn thr M) (hR : PR B f sf ff old sz len tx hsn) (hB : B < 700000000) (b : Nat) (j : Nat) (hb2 : b < 2) (hj : j < 2147483648) (hjq : j < nn f (57 + 11 * b)) : Met l yX6_waiting wsX6_waiting ({ frames := 2, cells := 0, slots := 0, locals := 42 }) (PJ [.ref ob, .int (nI b), .int (nI j)] G (fun H => va_P G.1 vwCl M H ∧ va_D (fun _ => True) M)) (MV (some (.int (f (((57 + (11 * b)) + 1) + j)))) (fun H => ∃ M', RS G ob f sf ff old sz len tx hsn (nI 0) M' ∧ va_P G.1 vwCl M' H ∧ va_D (inW M) M') (inW M)) 0 0 (inW M) := by
  obtain ⟨a1, a2, a3, a4, a5, th, pa, sn, spot, bad, lt, one, two, wh, hash, rfl, hsr, hpr⟩ := hM
  obtain ⟨ho, hos, hof, hold, hz, htx, hk01⟩ := hR
  have hs := okf_shp (by omega) ho
  have hsS := okf_shp (by omega) hos
  have heok := eR_ok htx
  have hrt := rR_le (nn tx) len
  refine liftN (c_X6_waiting_in l G ob a1 a2 a3 a4 a5 f th pa sn tx sz len spot hsn thr bad lt one two wh hash hs b j hb2 hj hjq) (fun a s h => ⟨h.1, h.2.1, h.2.2.2⟩) (fun H hb => ?_)
  obtain ⟨hP1, hD1⟩ := hb
  exact ⟨_, hP1, hD1, ⟨_, _, _, _, _, _, _, _, _, _, _, _, _, _, _,  rfl, hsr, hpr⟩⟩

set_option maxHeartbeats 4000000 in
set_option maxRecDepth 100000 in
theorem MX_waiting_out (l : Launch) (G : eG) {ob B : Nat} {f sf : Nat → Int32} {ff : Nat → Nat → Int32} {old sz len : Nat} {tx : Nat → Int32} {hsn thr : Int32} {M : va_W} (hM : RS G ob f sf ff old sz len tx hsn thr M) (hR : PR B f sf ff old sz len tx hsn) (hB : B < 700000000) (b : Nat) (j : Nat) (hb2 : b < 2) (hj : j < 2147483648) (hjq : nn f (57 + 11 * b) ≤ j) : Met l yX6_waiting wsX6_waiting ({ frames := 2, cells := 0, slots := 0, locals := 42 }) (PJ [.ref ob, .int (nI b), .int (nI j)] G (fun H => va_P G.1 vwCl M H ∧ va_D (fun _ => True) M)) (MV (some (.int (-1))) (fun H => ∃ M', RS G ob f sf ff old sz len tx hsn (nI 0) M' ∧ va_P G.1 vwCl M' H ∧ va_D (inW M) M') (inW M)) 0 0 (inW M) := by
  obtain ⟨a1, a2, a3, a4, a5, th, pa, sn, spot, bad, lt, one, two, wh, hash, rfl, hsr, hpr⟩ := hM
  obtain ⟨ho, hos, hof, hold, hz, htx, hk01⟩ := hR
  have hs := okf_shp (by omega) ho
  have hsS := okf_shp (by omega) hos
  have heok := eR_ok htx
  have hrt := rR_le (nn tx) len
  refine liftN (c_X6_waiting_out l G ob a1 a2 a3 a4 a5 f th pa sn tx sz len spot hsn thr bad lt one two wh hash hs b j hb2 hj hjq) (fun a s h => ⟨h.1, h.2.1, h.2.2.2⟩) (fun H hb => ?_)
  obtain ⟨hP1, hD1⟩ := hb
  exact ⟨_, hP1, hD1, ⟨_, _, _, _, _, _, _, _, _, _, _, _, _, _, _,  rfl, hsr, hpr⟩⟩

set_option maxHeartbeats 4000000 in
set_option maxRecDepth 100000 in
theorem MX_waiting_e1 (l : Launch) (G : eG) {ob B : Nat} {f sf : Nat → Int32} {ff : Nat → Nat → Int32} {old sz len : Nat} {tx : Nat → Int32} {hsn thr : Int32} {M : va_W} (hM : RS G ob f sf ff old sz len tx hsn thr M) (hR : PR B f sf ff old sz len tx hsn) (hB : B < 700000000) (p0 : Int32) (p1 : Int32) (hNo : ¬ (nI 0 ≤ p0 ∧ p0 ≤ nI 1)) : Met l yX6_waiting wsX6_waiting ({ frames := 2, cells := 0, slots := 0, locals := 42 }) (PJ [.ref ob, .int p0, .int p1] G (fun H => va_P G.1 vwCl M H ∧ va_D (fun _ => True) M)) (MV (some (.int (nI 0))) (fun H => ∃ M', RS G ob f sf ff old sz len tx hsn (nI 1) M' ∧ va_P G.1 vwCl M' H ∧ va_D (inW M) M') (inW M)) 0 0 (inW M) := by
  obtain ⟨a1, a2, a3, a4, a5, th, pa, sn, spot, bad, lt, one, two, wh, hash, rfl, hsr, hpr⟩ := hM
  obtain ⟨ho, hos, hof, hold, hz, htx, hk01⟩ := hR
  have hs := okf_shp (by omega) ho
  have hsS := okf_shp (by omega) hos
  have heok := eR_ok htx
  have hrt := rR_le (nn tx) len
  refine liftN (c_X6_waiting_e1 l G ob a1 a2 a3 a4 a5 f th pa sn tx sz len spot hsn thr bad lt one two wh hash p0 p1 hNo) (fun a s h => ⟨h.1, h.2.1, h.2.2.2⟩) (fun H hb => ?_)
  obtain ⟨hP1, hD1⟩ := hb
  exact ⟨_, hP1, hD1, ⟨_, _, _, _, _, _, _, _, _, _, _, _, _, _, _,  rfl, hsr, hpr⟩⟩

set_option maxHeartbeats 4000000 in
set_option maxRecDepth 100000 in
theorem MX_waiting_e2 (l : Launch) (G : eG) {ob B : Nat} {f sf : Nat → Int32} {ff : Nat → Nat → Int32} {old sz len : Nat} {tx : Nat → Int32} {hsn thr : Int32} {M : va_W} (hM : RS G ob f sf ff old sz len tx hsn thr M) (hR : PR B f sf ff old sz len tx hsn) (hB : B < 700000000) (p0 : Int32) (p1 : Int32) (h1 : nI 0 ≤ p0 ∧ p0 ≤ nI 1) (hNo : ¬ 0 ≤ p1) : Met l yX6_waiting wsX6_waiting ({ frames := 2, cells := 0, slots := 0, locals := 42 }) (PJ [.ref ob, .int p0, .int p1] G (fun H => va_P G.1 vwCl M H ∧ va_D (fun _ => True) M)) (MV (some (.int (nI 0))) (fun H => ∃ M', RS G ob f sf ff old sz len tx hsn (nI 2) M' ∧ va_P G.1 vwCl M' H ∧ va_D (inW M) M') (inW M)) 0 0 (inW M) := by
  obtain ⟨a1, a2, a3, a4, a5, th, pa, sn, spot, bad, lt, one, two, wh, hash, rfl, hsr, hpr⟩ := hM
  obtain ⟨ho, hos, hof, hold, hz, htx, hk01⟩ := hR
  have hs := okf_shp (by omega) ho
  have hsS := okf_shp (by omega) hos
  have heok := eR_ok htx
  have hrt := rR_le (nn tx) len
  refine liftN (c_X6_waiting_e2 l G ob a1 a2 a3 a4 a5 f th pa sn tx sz len spot hsn thr bad lt one two wh hash p0 p1 h1 hNo) (fun a s h => ⟨h.1, h.2.1, h.2.2.2⟩) (fun H hb => ?_)
  obtain ⟨hP1, hD1⟩ := hb
  exact ⟨_, hP1, hD1, ⟨_, _, _, _, _, _, _, _, _, _, _, _, _, _, _,  rfl, hsr, hpr⟩⟩

set_option maxHeartbeats 4000000 in
set_option maxRecDepth 100000 in
theorem MX_deck_in (l : Launch) (G : eG) {ob B : Nat} {f sf : Nat → Int32} {ff : Nat → Nat → Int32} {old sz len : Nat} {tx : Nat → Int32} {hsn thr : Int32} {M : va_W} (hM : RS G ob f sf ff old sz len tx hsn thr M) (hR : PR B f sf ff old sz len tx hsn) (hB : B < 700000000) (b : Nat) (j : Nat) (hb2 : b < 2) (hj : j < 2147483648) (w : Nat) (hw2 : w < 2) (hjq : j < nn f (79 + 9 * b)) : Met l yX6_deck wsX6_deck ({ frames := 2, cells := 0, slots := 0, locals := 42 }) (PJ [.ref ob, .int (nI b), .int (nI j), .int (nI w)] G (fun H => va_P G.1 vwCl M H ∧ va_D (fun _ => True) M)) (MV (some (.int (f ((((79 + (9 * b)) + 1) + (2 * j)) + w)))) (fun H => ∃ M', RS G ob f sf ff old sz len tx hsn (nI 0) M' ∧ va_P G.1 vwCl M' H ∧ va_D (inW M) M') (inW M)) 0 0 (inW M) := by
  obtain ⟨a1, a2, a3, a4, a5, th, pa, sn, spot, bad, lt, one, two, wh, hash, rfl, hsr, hpr⟩ := hM
  obtain ⟨ho, hos, hof, hold, hz, htx, hk01⟩ := hR
  have hs := okf_shp (by omega) ho
  have hsS := okf_shp (by omega) hos
  have heok := eR_ok htx
  have hrt := rR_le (nn tx) len
  refine liftN (c_X6_deck_in l G ob a1 a2 a3 a4 a5 f th pa sn tx sz len spot hsn thr bad lt one two wh hash hs b j hb2 hj w hw2 hjq) (fun a s h => ⟨h.1, h.2.1, h.2.2.2⟩) (fun H hb => ?_)
  obtain ⟨hP1, hD1⟩ := hb
  exact ⟨_, hP1, hD1, ⟨_, _, _, _, _, _, _, _, _, _, _, _, _, _, _,  rfl, hsr, hpr⟩⟩

set_option maxHeartbeats 4000000 in
set_option maxRecDepth 100000 in
theorem MX_deck_out (l : Launch) (G : eG) {ob B : Nat} {f sf : Nat → Int32} {ff : Nat → Nat → Int32} {old sz len : Nat} {tx : Nat → Int32} {hsn thr : Int32} {M : va_W} (hM : RS G ob f sf ff old sz len tx hsn thr M) (hR : PR B f sf ff old sz len tx hsn) (hB : B < 700000000) (b : Nat) (j : Nat) (hb2 : b < 2) (hj : j < 2147483648) (w : Nat) (hw2 : w < 2) (hjq : nn f (79 + 9 * b) ≤ j) : Met l yX6_deck wsX6_deck ({ frames := 2, cells := 0, slots := 0, locals := 42 }) (PJ [.ref ob, .int (nI b), .int (nI j), .int (nI w)] G (fun H => va_P G.1 vwCl M H ∧ va_D (fun _ => True) M)) (MV (some (.int (-1))) (fun H => ∃ M', RS G ob f sf ff old sz len tx hsn (nI 0) M' ∧ va_P G.1 vwCl M' H ∧ va_D (inW M) M') (inW M)) 0 0 (inW M) := by
  obtain ⟨a1, a2, a3, a4, a5, th, pa, sn, spot, bad, lt, one, two, wh, hash, rfl, hsr, hpr⟩ := hM
  obtain ⟨ho, hos, hof, hold, hz, htx, hk01⟩ := hR
  have hs := okf_shp (by omega) ho
  have hsS := okf_shp (by omega) hos
  have heok := eR_ok htx
  have hrt := rR_le (nn tx) len
  refine liftN (c_X6_deck_out l G ob a1 a2 a3 a4 a5 f th pa sn tx sz len spot hsn thr bad lt one two wh hash hs b j hb2 hj w hw2 hjq) (fun a s h => ⟨h.1, h.2.1, h.2.2.2⟩) (fun H hb => ?_)
  obtain ⟨hP1, hD1⟩ := hb
  exact ⟨_, hP1, hD1, ⟨_, _, _, _, _, _, _, _, _, _, _, _, _, _, _,  rfl, hsr, hpr⟩⟩

set_option maxHeartbeats 4000000 in
set_option maxRecDepth 100000 in
theorem MX_deck_e1 (l : Launch) (G : eG) {ob B : Nat} {f sf : Nat → Int32} {ff : Nat → Nat → Int32} {old sz len : Nat} {tx : Nat → Int32} {hsn thr : Int32} {M : va_W} (hM : RS G ob f sf ff old sz len tx hsn thr M) (hR : PR B f sf ff old sz len tx hsn) (hB : B < 700000000) (p0 : Int32) (p1 : Int32) (p2 : Int32) (hNo : ¬ (nI 0 ≤ p0 ∧ p0 ≤ nI 1)) : Met l yX6_deck wsX6_deck ({ frames := 2, cells := 0, slots := 0, locals := 42 }) (PJ [.ref ob, .int p0, .int p1, .int p2] G (fun H => va_P G.1 vwCl M H ∧ va_D (fun _ => True) M)) (MV (some (.int (nI 0))) (fun H => ∃ M', RS G ob f sf ff old sz len tx hsn (nI 1) M' ∧ va_P G.1 vwCl M' H ∧ va_D (inW M) M') (inW M)) 0 0 (inW M) := by
  obtain ⟨a1, a2, a3, a4, a5, th, pa, sn, spot, bad, lt, one, two, wh, hash, rfl, hsr, hpr⟩ := hM
  obtain ⟨ho, hos, hof, hold, hz, htx, hk01⟩ := hR
  have hs := okf_shp (by omega) ho
  have hsS := okf_shp (by omega) hos
  have heok := eR_ok htx
  have hrt := rR_le (nn tx) len
  refine liftN (c_X6_deck_e1 l G ob a1 a2 a3 a4 a5 f th pa sn tx sz len spot hsn thr bad lt one two wh hash p0 p1 p2 hNo) (fun a s h => ⟨h.1, h.2.1, h.2.2.2⟩) (fun H hb => ?_)
  obtain ⟨hP1, hD1⟩ := hb
  exact ⟨_, hP1, hD1, ⟨_, _, _, _, _, _, _, _, _, _, _, _, _, _, _,  rfl, hsr, hpr⟩⟩

set_option maxHeartbeats 4000000 in
set_option maxRecDepth 100000 in
theorem MX_deck_e2a (l : Launch) (G : eG) {ob B : Nat} {f sf : Nat → Int32} {ff : Nat → Nat → Int32} {old sz len : Nat} {tx : Nat → Int32} {hsn thr : Int32} {M : va_W} (hM : RS G ob f sf ff old sz len tx hsn thr M) (hR : PR B f sf ff old sz len tx hsn) (hB : B < 700000000) (p0 : Int32) (p1 : Int32) (p2 : Int32) (h1 : nI 0 ≤ p0 ∧ p0 ≤ nI 1) (hNo : p1 < 0) : Met l yX6_deck wsX6_deck ({ frames := 2, cells := 0, slots := 0, locals := 42 }) (PJ [.ref ob, .int p0, .int p1, .int p2] G (fun H => va_P G.1 vwCl M H ∧ va_D (fun _ => True) M)) (MV (some (.int (nI 0))) (fun H => ∃ M', RS G ob f sf ff old sz len tx hsn (nI 2) M' ∧ va_P G.1 vwCl M' H ∧ va_D (inW M) M') (inW M)) 0 0 (inW M) := by
  obtain ⟨a1, a2, a3, a4, a5, th, pa, sn, spot, bad, lt, one, two, wh, hash, rfl, hsr, hpr⟩ := hM
  obtain ⟨ho, hos, hof, hold, hz, htx, hk01⟩ := hR
  have hs := okf_shp (by omega) ho
  have hsS := okf_shp (by omega) hos
  have heok := eR_ok htx
  have hrt := rR_le (nn tx) len
  refine liftN (c_X6_deck_e2a l G ob a1 a2 a3 a4 a5 f th pa sn tx sz len spot hsn thr bad lt one two wh hash p0 p1 p2 h1 hNo) (fun a s h => ⟨h.1, h.2.1, h.2.2.2⟩) (fun H hb => ?_)
  obtain ⟨hP1, hD1⟩ := hb
  exact ⟨_, hP1, hD1, ⟨_, _, _, _, _, _, _, _, _, _, _, _, _, _, _,  rfl, hsr, hpr⟩⟩

set_option maxHeartbeats 4000000 in
set_option maxRecDepth 100000 in
theorem MX_deck_e2b (l : Launch) (G : eG) {ob B : Nat} {f sf : Nat → Int32} {ff : Nat → Nat → Int32} {old sz len : Nat} {tx : Nat → Int32} {hsn thr : Int32} {M : va_W} (hM : RS G ob f sf ff old sz len tx hsn thr M) (hR : PR B f sf ff old sz len tx hsn) (hB : B < 700000000) (p0 : Int32) (p1 : Int32) (p2 : Int32) (h1 : nI 0 ≤ p0 ∧ p0 ≤ nI 1) (hE0 : ¬ p1 < 0) (hNo : ¬ (nI 0 ≤ p2 ∧ p2 ≤ nI 1)) : Met l yX6_deck wsX6_deck ({ frames := 2, cells := 0, slots := 0, locals := 42 }) (PJ [.ref ob, .int p0, .int p1, .int p2] G (fun H => va_P G.1 vwCl M H ∧ va_D (fun _ => True) M)) (MV (some (.int (nI 0))) (fun H => ∃ M', RS G ob f sf ff old sz len tx hsn (nI 2) M' ∧ va_P G.1 vwCl M' H ∧ va_D (inW M) M') (inW M)) 0 0 (inW M) := by
  obtain ⟨a1, a2, a3, a4, a5, th, pa, sn, spot, bad, lt, one, two, wh, hash, rfl, hsr, hpr⟩ := hM
  obtain ⟨ho, hos, hof, hold, hz, htx, hk01⟩ := hR
  have hs := okf_shp (by omega) ho
  have hsS := okf_shp (by omega) hos
  have heok := eR_ok htx
  have hrt := rR_le (nn tx) len
  refine liftN (c_X6_deck_e2b l G ob a1 a2 a3 a4 a5 f th pa sn tx sz len spot hsn thr bad lt one two wh hash p0 p1 p2 h1 hE0 hNo) (fun a s h => ⟨h.1, h.2.1, h.2.2.2⟩) (fun H hb => ?_)
  obtain ⟨hP1, hD1⟩ := hb
  exact ⟨_, hP1, hD1, ⟨_, _, _, _, _, _, _, _, _, _, _, _, _, _, _,  rfl, hsr, hpr⟩⟩

set_option maxHeartbeats 4000000 in
set_option maxRecDepth 100000 in
theorem MX_count_ok (l : Launch) (G : eG) {ob B : Nat} {f sf : Nat → Int32} {ff : Nat → Nat → Int32} {old sz len : Nat} {tx : Nat → Int32} {hsn thr : Int32} {M : va_W} (hM : RS G ob f sf ff old sz len tx hsn thr M) (hR : PR B f sf ff old sz len tx hsn) (hB : B < 700000000) (w : Nat) (hw : w < 14) : Met l yX6_count wsX6_count ({ frames := 4, cells := 0, slots := 0, locals := 87 }) (PJ [.ref ob, .int (nI w)] G (fun H => va_P G.1 vwCl M H ∧ va_D (fun _ => True) M)) (MV (some (.int (fCnt f sz w))) (fun H => ∃ M', RS G ob f sf ff old sz len tx hsn (nI 0) M' ∧ va_P G.1 vwCl M' H ∧ va_D (inW M) M') (inW M)) 0 0 (inW M) := by
  obtain ⟨a1, a2, a3, a4, a5, th, pa, sn, spot, bad, lt, one, two, wh, hash, rfl, hsr, hpr⟩ := hM
  obtain ⟨ho, hos, hof, hold, hz, htx, hk01⟩ := hR
  have hs := okf_shp (by omega) ho
  have hsS := okf_shp (by omega) hos
  have heok := eR_ok htx
  have hrt := rR_le (nn tx) len
  refine liftN (c_X6_count_ok l G ob a1 a2 a3 a4 a5 f th pa sn tx sz len spot hsn thr bad lt one two wh hash hs w hw) (fun a s h => ⟨h.1, h.2.1, h.2.2.2⟩) (fun H hb => ?_)
  obtain ⟨hP1, hD1⟩ := hb
  exact ⟨_, hP1, hD1, ⟨_, _, _, _, _, _, _, _, _, _, _, _, _, _, _,  rfl, hsr, hpr⟩⟩

set_option maxHeartbeats 4000000 in
set_option maxRecDepth 100000 in
theorem MX_count_e1 (l : Launch) (G : eG) {ob B : Nat} {f sf : Nat → Int32} {ff : Nat → Nat → Int32} {old sz len : Nat} {tx : Nat → Int32} {hsn thr : Int32} {M : va_W} (hM : RS G ob f sf ff old sz len tx hsn thr M) (hR : PR B f sf ff old sz len tx hsn) (hB : B < 700000000) (p0 : Int32) (hNo : ¬ (nI 0 ≤ p0 ∧ p0 ≤ nI 13)) : Met l yX6_count wsX6_count ({ frames := 1, cells := 0, slots := 0, locals := 22 }) (PJ [.ref ob, .int p0] G (fun H => va_P G.1 vwCl M H ∧ va_D (fun _ => True) M)) (MV (some (.int (nI 0))) (fun H => ∃ M', RS G ob f sf ff old sz len tx hsn (nI 1) M' ∧ va_P G.1 vwCl M' H ∧ va_D (inW M) M') (inW M)) 0 0 (inW M) := by
  obtain ⟨a1, a2, a3, a4, a5, th, pa, sn, spot, bad, lt, one, two, wh, hash, rfl, hsr, hpr⟩ := hM
  obtain ⟨ho, hos, hof, hold, hz, htx, hk01⟩ := hR
  have hs := okf_shp (by omega) ho
  have hsS := okf_shp (by omega) hos
  have heok := eR_ok htx
  have hrt := rR_le (nn tx) len
  refine liftN (c_X6_count_e1 l G ob a1 a2 a3 a4 a5 f th pa sn tx sz len spot hsn thr bad lt one two wh hash p0 hNo) (fun a s h => ⟨h.1, h.2.1, h.2.2.2⟩) (fun H hb => ?_)
  obtain ⟨hP1, hD1⟩ := hb
  exact ⟨_, hP1, hD1, ⟨_, _, _, _, _, _, _, _, _, _, _, _, _, _, _,  rfl, hsr, hpr⟩⟩

set_option maxHeartbeats 4000000 in
set_option maxRecDepth 100000 in
theorem MX_currentOf_ok (l : Launch) (G : eG) {ob B : Nat} {f sf : Nat → Int32} {ff : Nat → Nat → Int32} {old sz len : Nat} {tx : Nat → Int32} {hsn thr : Int32} {M : va_W} (hM : RS G ob f sf ff old sz len tx hsn thr M) (hR : PR B f sf ff old sz len tx hsn) (hB : B < 700000000) (h : Nat) (hh : h < 24) : Met l yX6_currentOf wsX6_currentOf ({ frames := 1, cells := 0, slots := 0, locals := 22 }) (PJ [.ref ob, .int (nI h)] G (fun H => va_P G.1 vwCl M H ∧ va_D (fun _ => True) M)) (MV (some (.int (f (3 + h)))) (fun H => ∃ M', RS G ob f sf ff old sz len tx hsn (nI 0) M' ∧ va_P G.1 vwCl M' H ∧ va_D (inW M) M') (inW M)) 0 0 (inW M) := by
  obtain ⟨a1, a2, a3, a4, a5, th, pa, sn, spot, bad, lt, one, two, wh, hash, rfl, hsr, hpr⟩ := hM
  obtain ⟨ho, hos, hof, hold, hz, htx, hk01⟩ := hR
  have hs := okf_shp (by omega) ho
  have hsS := okf_shp (by omega) hos
  have heok := eR_ok htx
  have hrt := rR_le (nn tx) len
  refine liftN (c_X6_currentOf_ok l G ob a1 a2 a3 a4 a5 f th pa sn tx sz len spot hsn thr bad lt one two wh hash h hh) (fun a s h => ⟨h.1, h.2.1, h.2.2.2⟩) (fun H hb => ?_)
  obtain ⟨hP1, hD1⟩ := hb
  exact ⟨_, hP1, hD1, ⟨_, _, _, _, _, _, _, _, _, _, _, _, _, _, _,  rfl, hsr, hpr⟩⟩

set_option maxHeartbeats 4000000 in
set_option maxRecDepth 100000 in
theorem MX_currentOf_e1 (l : Launch) (G : eG) {ob B : Nat} {f sf : Nat → Int32} {ff : Nat → Nat → Int32} {old sz len : Nat} {tx : Nat → Int32} {hsn thr : Int32} {M : va_W} (hM : RS G ob f sf ff old sz len tx hsn thr M) (hR : PR B f sf ff old sz len tx hsn) (hB : B < 700000000) (p0 : Int32) (hNo : ¬ (nI 0 ≤ p0 ∧ p0 ≤ nI 23)) : Met l yX6_currentOf wsX6_currentOf ({ frames := 1, cells := 0, slots := 0, locals := 22 }) (PJ [.ref ob, .int p0] G (fun H => va_P G.1 vwCl M H ∧ va_D (fun _ => True) M)) (MV (some (.int (nI 0))) (fun H => ∃ M', RS G ob f sf ff old sz len tx hsn (nI 1) M' ∧ va_P G.1 vwCl M' H ∧ va_D (inW M) M') (inW M)) 0 0 (inW M) := by
  obtain ⟨a1, a2, a3, a4, a5, th, pa, sn, spot, bad, lt, one, two, wh, hash, rfl, hsr, hpr⟩ := hM
  obtain ⟨ho, hos, hof, hold, hz, htx, hk01⟩ := hR
  have hs := okf_shp (by omega) ho
  have hsS := okf_shp (by omega) hos
  have heok := eR_ok htx
  have hrt := rR_le (nn tx) len
  refine liftN (c_X6_currentOf_e1 l G ob a1 a2 a3 a4 a5 f th pa sn tx sz len spot hsn thr bad lt one two wh hash p0 hNo) (fun a s h => ⟨h.1, h.2.1, h.2.2.2⟩) (fun H hb => ?_)
  obtain ⟨hP1, hD1⟩ := hb
  exact ⟨_, hP1, hD1, ⟨_, _, _, _, _, _, _, _, _, _, _, _, _, _, _,  rfl, hsr, hpr⟩⟩

set_option maxHeartbeats 4000000 in
set_option maxRecDepth 100000 in
theorem MX_setting_ok (l : Launch) (G : eG) {ob B : Nat} {f sf : Nat → Int32} {ff : Nat → Nat → Int32} {old sz len : Nat} {tx : Nat → Int32} {hsn thr : Int32} {M : va_W} (hM : RS G ob f sf ff old sz len tx hsn thr M) (hR : PR B f sf ff old sz len tx hsn) (hB : B < 700000000) (s0 : Nat) (hs3 : s0 < 3) : Met l yX6_setting wsX6_setting ({ frames := 1, cells := 0, slots := 0, locals := 22 }) (PJ [.ref ob, .int (nI s0)] G (fun H => va_P G.1 vwCl M H ∧ va_D (fun _ => True) M)) (MV (some (.int (f s0))) (fun H => ∃ M', RS G ob f sf ff old sz len tx hsn (nI 0) M' ∧ va_P G.1 vwCl M' H ∧ va_D (inW M) M') (inW M)) 0 0 (inW M) := by
  obtain ⟨a1, a2, a3, a4, a5, th, pa, sn, spot, bad, lt, one, two, wh, hash, rfl, hsr, hpr⟩ := hM
  obtain ⟨ho, hos, hof, hold, hz, htx, hk01⟩ := hR
  have hs := okf_shp (by omega) ho
  have hsS := okf_shp (by omega) hos
  have heok := eR_ok htx
  have hrt := rR_le (nn tx) len
  refine liftN (c_X6_setting_ok l G ob a1 a2 a3 a4 a5 f th pa sn tx sz len spot hsn thr bad lt one two wh hash s0 hs3) (fun a s h => ⟨h.1, h.2.1, h.2.2.2⟩) (fun H hb => ?_)
  obtain ⟨hP1, hD1⟩ := hb
  exact ⟨_, hP1, hD1, ⟨_, _, _, _, _, _, _, _, _, _, _, _, _, _, _,  rfl, hsr, hpr⟩⟩

set_option maxHeartbeats 4000000 in
set_option maxRecDepth 100000 in
theorem MX_setting_e1 (l : Launch) (G : eG) {ob B : Nat} {f sf : Nat → Int32} {ff : Nat → Nat → Int32} {old sz len : Nat} {tx : Nat → Int32} {hsn thr : Int32} {M : va_W} (hM : RS G ob f sf ff old sz len tx hsn thr M) (hR : PR B f sf ff old sz len tx hsn) (hB : B < 700000000) (p0 : Int32) (hNo : ¬ (nI 0 ≤ p0 ∧ p0 ≤ nI 2)) : Met l yX6_setting wsX6_setting ({ frames := 1, cells := 0, slots := 0, locals := 22 }) (PJ [.ref ob, .int p0] G (fun H => va_P G.1 vwCl M H ∧ va_D (fun _ => True) M)) (MV (some (.int (nI 0))) (fun H => ∃ M', RS G ob f sf ff old sz len tx hsn (nI 1) M' ∧ va_P G.1 vwCl M' H ∧ va_D (inW M) M') (inW M)) 0 0 (inW M) := by
  obtain ⟨a1, a2, a3, a4, a5, th, pa, sn, spot, bad, lt, one, two, wh, hash, rfl, hsr, hpr⟩ := hM
  obtain ⟨ho, hos, hof, hold, hz, htx, hk01⟩ := hR
  have hs := okf_shp (by omega) ho
  have hsS := okf_shp (by omega) hos
  have heok := eR_ok htx
  have hrt := rR_le (nn tx) len
  refine liftN (c_X6_setting_e1 l G ob a1 a2 a3 a4 a5 f th pa sn tx sz len spot hsn thr bad lt one two wh hash p0 hNo) (fun a s h => ⟨h.1, h.2.1, h.2.2.2⟩) (fun H hb => ?_)
  obtain ⟨hP1, hD1⟩ := hb
  exact ⟨_, hP1, hD1, ⟨_, _, _, _, _, _, _, _, _, _, _, _, _, _, _,  rfl, hsr, hpr⟩⟩

set_option maxHeartbeats 4000000 in
set_option maxRecDepth 100000 in
theorem MX_why_ok (l : Launch) (G : eG) {ob B : Nat} {f sf : Nat → Int32} {ff : Nat → Nat → Int32} {old sz len : Nat} {tx : Nat → Int32} {hsn thr : Int32} {M : va_W} (hM : RS G ob f sf ff old sz len tx hsn thr M) (hR : PR B f sf ff old sz len tx hsn) (hB : B < 700000000) : Met l yX6_why wsX6_why ({ frames := 6, cells := 0, slots := 0, locals := 129 }) (PJ [.ref ob] G (fun H => va_P G.1 vwCl M H ∧ va_D (fun _ => True) M)) (MV (some (.int (fRsn f))) (fun H => ∃ M', RS G ob f sf ff old sz len tx hsn (nI 0) M' ∧ va_P G.1 vwCl M' H ∧ va_D (inW M) M') (inW M)) 0 0 (inW M) := by
  obtain ⟨a1, a2, a3, a4, a5, th, pa, sn, spot, bad, lt, one, two, wh, hash, rfl, hsr, hpr⟩ := hM
  obtain ⟨ho, hos, hof, hold, hz, htx, hk01⟩ := hR
  have hs := okf_shp (by omega) ho
  have hsS := okf_shp (by omega) hos
  have heok := eR_ok htx
  have hrt := rR_le (nn tx) len
  refine liftN (c_X6_why_ok l G ob a1 a2 a3 a4 a5 f th pa sn tx sz len spot hsn thr bad lt one two wh hash hs) (fun a s h => ⟨h.1, h.2.1, h.2.2.2⟩) (fun H hb => ?_)
  obtain ⟨hP1, hD1⟩ := hb
  exact ⟨_, hP1, hD1, ⟨_, _, _, _, _, _, _, _, _, _, _, _, _, _, _,  rfl, hsr, hpr⟩⟩

set_option maxHeartbeats 4000000 in
set_option maxRecDepth 100000 in
theorem MX_weakest_ok (l : Launch) (G : eG) {ob B : Nat} {f sf : Nat → Int32} {ff : Nat → Nat → Int32} {old sz len : Nat} {tx : Nat → Int32} {hsn thr : Int32} {M : va_W} (hM : RS G ob f sf ff old sz len tx hsn thr M) (hR : PR B f sf ff old sz len tx hsn) (hB : B < 700000000) : Met l yX6_weakest wsX6_weakest ({ frames := 5, cells := 0, slots := 0, locals := 110 }) (PJ [.ref ob] G (fun H => va_P G.1 vwCl M H ∧ va_D (fun _ => True) M)) (MV (some (.int (nI (wkN f 20)))) (fun H => ∃ M', RS G ob f sf ff old sz len tx hsn (nI 0) M' ∧ va_P G.1 vwCl M' H ∧ va_D (inW M) M') (inW M)) 0 0 (inW M) := by
  obtain ⟨a1, a2, a3, a4, a5, th, pa, sn, spot, bad, lt, one, two, wh, hash, rfl, hsr, hpr⟩ := hM
  obtain ⟨ho, hos, hof, hold, hz, htx, hk01⟩ := hR
  have hs := okf_shp (by omega) ho
  have hsS := okf_shp (by omega) hos
  have heok := eR_ok htx
  have hrt := rR_le (nn tx) len
  refine liftN (c_X6_weakest_ok l G ob a1 a2 a3 a4 a5 f th pa sn tx sz len spot hsn thr bad lt one two wh hash hs) (fun a s h => ⟨h.1, h.2.1, h.2.2.2⟩) (fun H hb => ?_)
  obtain ⟨hP1, hD1⟩ := hb
  exact ⟨_, hP1, hD1, ⟨_, _, _, _, _, _, _, _, _, _, _, _, _, _, _,  rfl, hsr, hpr⟩⟩

set_option maxHeartbeats 4000000 in
set_option maxRecDepth 100000 in
theorem MX_ifLoaded_ok (l : Launch) (G : eG) {ob B : Nat} {f sf : Nat → Int32} {ff : Nat → Nat → Int32} {old sz len : Nat} {tx : Nat → Int32} {hsn thr : Int32} {M : va_W} (hM : RS G ob f sf ff old sz len tx hsn thr M) (hR : PR B f sf ff old sz len tx hsn) (hB : B < 700000000) (q : Nat) (hq : q < 2) : Met l yX6_ifLoaded wsX6_ifLoaded ({ frames := 5, cells := 0, slots := 0, locals := 111 }) (PJ [.ref ob, .int (nI q)] G (fun H => va_P G.1 vwCl M H ∧ va_D (fun _ => True) M)) (MV (some (.int (fWl f q))) (fun H => ∃ M', RS G ob f sf ff old sz len tx hsn (nI 0) M' ∧ va_P G.1 vwCl M' H ∧ va_D (inW M) M') (inW M)) 0 0 (inW M) := by
  obtain ⟨a1, a2, a3, a4, a5, th, pa, sn, spot, bad, lt, one, two, wh, hash, rfl, hsr, hpr⟩ := hM
  obtain ⟨ho, hos, hof, hold, hz, htx, hk01⟩ := hR
  have hs := okf_shp (by omega) ho
  have hsS := okf_shp (by omega) hos
  have heok := eR_ok htx
  have hrt := rR_le (nn tx) len
  refine liftN (c_X6_ifLoaded_ok l G ob a1 a2 a3 a4 a5 f th pa sn tx sz len spot hsn thr bad lt one two wh hash hs q hq) (fun a s h => ⟨h.1, h.2.1, h.2.2.2⟩) (fun H hb => ?_)
  obtain ⟨hP1, hD1⟩ := hb
  exact ⟨_, hP1, hD1, ⟨_, _, _, _, _, _, _, _, _, _, _, _, _, _, _,  rfl, hsr, hpr⟩⟩

set_option maxHeartbeats 4000000 in
set_option maxRecDepth 100000 in
theorem MX_ifLoaded_e1 (l : Launch) (G : eG) {ob B : Nat} {f sf : Nat → Int32} {ff : Nat → Nat → Int32} {old sz len : Nat} {tx : Nat → Int32} {hsn thr : Int32} {M : va_W} (hM : RS G ob f sf ff old sz len tx hsn thr M) (hR : PR B f sf ff old sz len tx hsn) (hB : B < 700000000) (p0 : Int32) (hNo : ¬ (nI 0 ≤ p0 ∧ p0 ≤ nI 1)) : Met l yX6_ifLoaded wsX6_ifLoaded ({ frames := 2, cells := 0, slots := 0, locals := 42 }) (PJ [.ref ob, .int p0] G (fun H => va_P G.1 vwCl M H ∧ va_D (fun _ => True) M)) (MV (some (.int (nI 0))) (fun H => ∃ M', RS G ob f sf ff old sz len tx hsn (nI 1) M' ∧ va_P G.1 vwCl M' H ∧ va_D (inW M) M') (inW M)) 0 0 (inW M) := by
  obtain ⟨a1, a2, a3, a4, a5, th, pa, sn, spot, bad, lt, one, two, wh, hash, rfl, hsr, hpr⟩ := hM
  obtain ⟨ho, hos, hof, hold, hz, htx, hk01⟩ := hR
  have hs := okf_shp (by omega) ho
  have hsS := okf_shp (by omega) hos
  have heok := eR_ok htx
  have hrt := rR_le (nn tx) len
  refine liftN (c_X6_ifLoaded_e1 l G ob a1 a2 a3 a4 a5 f th pa sn tx sz len spot hsn thr bad lt one two wh hash p0 hNo) (fun a s h => ⟨h.1, h.2.1, h.2.2.2⟩) (fun H hb => ?_)
  obtain ⟨hP1, hD1⟩ := hb
  exact ⟨_, hP1, hD1, ⟨_, _, _, _, _, _, _, _, _, _, _, _, _, _, _,  rfl, hsr, hpr⟩⟩

set_option maxHeartbeats 4000000 in
set_option maxRecDepth 100000 in
theorem MX_bestHour_ok (l : Launch) (G : eG) {ob B : Nat} {f sf : Nat → Int32} {ff : Nat → Nat → Int32} {old sz len : Nat} {tx : Nat → Int32} {hsn thr : Int32} {M : va_W} (hM : RS G ob f sf ff old sz len tx hsn thr M) (hR : PR B f sf ff old sz len tx hsn) (hB : B < 700000000) : Met l yX6_bestHour wsX6_bestHour ({ frames := 5, cells := 0, slots := 0, locals := 111 }) (PJ [.ref ob] G (fun H => va_P G.1 vwCl M H ∧ va_D (fun _ => True) M)) (MV (some (.int (nI (bN f 24)))) (fun H => ∃ M', RS G ob f sf ff old sz len tx hsn (nI 0) M' ∧ va_P G.1 vwCl M' H ∧ va_D (inW M) M') (inW M)) 0 0 (inW M) := by
  obtain ⟨a1, a2, a3, a4, a5, th, pa, sn, spot, bad, lt, one, two, wh, hash, rfl, hsr, hpr⟩ := hM
  obtain ⟨ho, hos, hof, hold, hz, htx, hk01⟩ := hR
  have hs := okf_shp (by omega) ho
  have hsS := okf_shp (by omega) hos
  have heok := eR_ok htx
  have hrt := rR_le (nn tx) len
  refine liftN (c_X6_bestHour_ok l G ob a1 a2 a3 a4 a5 f th pa sn tx sz len spot hsn thr bad lt one two wh hash hs) (fun a s h => ⟨h.1, h.2.1, h.2.2.2⟩) (fun H hb => ?_)
  obtain ⟨hP1, hD1⟩ := hb
  exact ⟨_, hP1, hD1, ⟨_, _, _, _, _, _, _, _, _, _, _, _, _, _, _,  rfl, hsr, hpr⟩⟩

set_option maxHeartbeats 4000000 in
set_option maxRecDepth 100000 in
theorem MX_leastList_ok (l : Launch) (G : eG) {ob B : Nat} {f sf : Nat → Int32} {ff : Nat → Nat → Int32} {old sz len : Nat} {tx : Nat → Int32} {hsn thr : Int32} {M : va_W} (hM : RS G ob f sf ff old sz len tx hsn thr M) (hR : PR B f sf ff old sz len tx hsn) (hB : B < 700000000) (v : Nat) (hv : v ≤ 8) : Met l yX6_leastList wsX6_leastList ({ frames := 4, cells := 0, slots := 0, locals := 98 }) (PJ [.ref ob, .int (nI v)] G (fun H => va_P G.1 vwCl M H ∧ va_D (fun _ => True) M)) (MV (some (.int (fLs f v))) (fun H => ∃ M', RS G ob f sf ff old sz len tx hsn (nI 0) M' ∧ va_P G.1 vwCl M' H ∧ va_D (inW M) M') (inW M)) 0 0 (inW M) := by
  obtain ⟨a1, a2, a3, a4, a5, th, pa, sn, spot, bad, lt, one, two, wh, hash, rfl, hsr, hpr⟩ := hM
  obtain ⟨ho, hos, hof, hold, hz, htx, hk01⟩ := hR
  have hs := okf_shp (by omega) ho
  have hsS := okf_shp (by omega) hos
  have heok := eR_ok htx
  have hrt := rR_le (nn tx) len
  refine liftN (c_X6_leastList_ok l G ob a1 a2 a3 a4 a5 f th pa sn tx sz len spot hsn thr bad lt one two wh hash hs v hv) (fun a s h => ⟨h.1, h.2.1, h.2.2.2⟩) (fun H hb => ?_)
  obtain ⟨hP1, hD1⟩ := hb
  exact ⟨_, hP1, hD1, ⟨_, _, _, _, _, _, _, _, _, _, _, _, _, _, _,  rfl, hsr, hpr⟩⟩

set_option maxHeartbeats 4000000 in
set_option maxRecDepth 100000 in
theorem MX_leastList_e1 (l : Launch) (G : eG) {ob B : Nat} {f sf : Nat → Int32} {ff : Nat → Nat → Int32} {old sz len : Nat} {tx : Nat → Int32} {hsn thr : Int32} {M : va_W} (hM : RS G ob f sf ff old sz len tx hsn thr M) (hR : PR B f sf ff old sz len tx hsn) (hB : B < 700000000) (p0 : Int32) (hNo : ¬ (nI 0 ≤ p0 ∧ p0 ≤ nI 8)) : Met l yX6_leastList wsX6_leastList ({ frames := 1, cells := 0, slots := 0, locals := 22 }) (PJ [.ref ob, .int p0] G (fun H => va_P G.1 vwCl M H ∧ va_D (fun _ => True) M)) (MV (some (.int (nI 0))) (fun H => ∃ M', RS G ob f sf ff old sz len tx hsn (nI 1) M' ∧ va_P G.1 vwCl M' H ∧ va_D (inW M) M') (inW M)) 0 0 (inW M) := by
  obtain ⟨a1, a2, a3, a4, a5, th, pa, sn, spot, bad, lt, one, two, wh, hash, rfl, hsr, hpr⟩ := hM
  obtain ⟨ho, hos, hof, hold, hz, htx, hk01⟩ := hR
  have hs := okf_shp (by omega) ho
  have hsS := okf_shp (by omega) hos
  have heok := eR_ok htx
  have hrt := rR_le (nn tx) len
  refine liftN (c_X6_leastList_e1 l G ob a1 a2 a3 a4 a5 f th pa sn tx sz len spot hsn thr bad lt one two wh hash p0 hNo) (fun a s h => ⟨h.1, h.2.1, h.2.2.2⟩) (fun H hb => ?_)
  obtain ⟨hP1, hD1⟩ := hb
  exact ⟨_, hP1, hD1, ⟨_, _, _, _, _, _, _, _, _, _, _, _, _, _, _,  rfl, hsr, hpr⟩⟩

set_option maxHeartbeats 4000000 in
set_option maxRecDepth 100000 in
theorem MX_lasts_ok (l : Launch) (G : eG) {ob B : Nat} {f sf : Nat → Int32} {ff : Nat → Nat → Int32} {old sz len : Nat} {tx : Nat → Int32} {hsn thr : Int32} {M : va_W} (hM : RS G ob f sf ff old sz len tx hsn thr M) (hR : PR B f sf ff old sz len tx hsn) (hB : B < 700000000) : Met l yX6_lasts wsX6_lasts ({ frames := 7, cells := 0, slots := 0, locals := 151 }) (PJ [.ref ob] G (fun H => va_P G.1 vwCl M H ∧ va_D (fun _ => True) M)) (MV (some (.int (nI (nCr 100 f)))) (fun H => ∃ M', RS G ob f sf ff old sz len tx hsn (nI 0) M' ∧ va_P G.1 vwCl M' H ∧ va_D (inW M) M') (inW M)) 0 0 (inW M) := by
  obtain ⟨a1, a2, a3, a4, a5, th, pa, sn, spot, bad, lt, one, two, wh, hash, rfl, hsr, hpr⟩ := hM
  obtain ⟨ho, hos, hof, hold, hz, htx, hk01⟩ := hR
  have hs := okf_shp (by omega) ho
  have hsS := okf_shp (by omega) hos
  have heok := eR_ok htx
  have hrt := rR_le (nn tx) len
  refine liftN (c_X6_lasts_ok l G ob a1 a2 a3 a4 a5 f th pa sn tx sz len spot hsn thr bad lt one two wh hash B (by omega) ho) (fun a s h => ⟨h.1, h.2.1, h.2.2.2⟩) (fun H hb => ?_)
  obtain ⟨th9, hP1, hD1⟩ := hb
  exact ⟨_, hP1, hD1, ⟨_, _, _, _, _, _, _, _, _, _, _, _, _, _, _,  rfl, hsr, hpr⟩⟩

set_option maxHeartbeats 4000000 in
set_option maxRecDepth 100000 in
theorem MX_needed_ok (l : Launch) (G : eG) {ob B : Nat} {f sf : Nat → Int32} {ff : Nat → Nat → Int32} {old sz len : Nat} {tx : Nat → Int32} {hsn thr : Int32} {M : va_W} (hM : RS G ob f sf ff old sz len tx hsn thr M) (hR : PR B f sf ff old sz len tx hsn) (hB : B < 700000000) : Met l yX6_needed wsX6_needed ({ frames := 7, cells := 0, slots := 0, locals := 151 }) (PJ [.ref ob] G (fun H => va_P G.1 vwCl M H ∧ va_D (fun _ => True) M)) (MV (some (.int (fNd f))) (fun H => ∃ M', RS G ob f sf ff old sz len tx hsn (nI 0) M' ∧ va_P G.1 vwCl M' H ∧ va_D (inW M) M') (inW M)) 0 0 (inW M) := by
  obtain ⟨a1, a2, a3, a4, a5, th, pa, sn, spot, bad, lt, one, two, wh, hash, rfl, hsr, hpr⟩ := hM
  obtain ⟨ho, hos, hof, hold, hz, htx, hk01⟩ := hR
  have hs := okf_shp (by omega) ho
  have hsS := okf_shp (by omega) hos
  have heok := eR_ok htx
  have hrt := rR_le (nn tx) len
  refine liftN (c_X6_needed_ok l G ob a1 a2 a3 a4 a5 f th pa sn tx sz len spot hsn thr bad lt one two wh hash B (by omega) ho) (fun a s h => ⟨h.1, h.2.1, h.2.2.2⟩) (fun H hb => ?_)
  obtain ⟨th9, hP1, hD1⟩ := hb
  exact ⟨_, hP1, hD1, ⟨_, _, _, _, _, _, _, _, _, _, _, _, _, _, _,  rfl, hsr, hpr⟩⟩

set_option maxHeartbeats 4000000 in
set_option maxRecDepth 100000 in
theorem MX_wornShare_ok (l : Launch) (G : eG) {ob B : Nat} {f sf : Nat → Int32} {ff : Nat → Nat → Int32} {old sz len : Nat} {tx : Nat → Int32} {hsn thr : Int32} {M : va_W} (hM : RS G ob f sf ff old sz len tx hsn thr M) (hR : PR B f sf ff old sz len tx hsn) (hB : B < 700000000) : Met l yX6_wornShare wsX6_wornShare ({ frames := 1, cells := 0, slots := 0, locals := 22 }) (PJ [.ref ob] G (fun H => va_P G.1 vwCl M H ∧ va_D (fun _ => True) M)) (MV (some (.float (fWs f))) (fun H => ∃ M', RS G ob f sf ff old sz len tx hsn (nI 0) M' ∧ va_P G.1 vwCl M' H ∧ va_D (inW M) M') (inW M)) 0 0 (inW M) := by
  obtain ⟨a1, a2, a3, a4, a5, th, pa, sn, spot, bad, lt, one, two, wh, hash, rfl, hsr, hpr⟩ := hM
  obtain ⟨ho, hos, hof, hold, hz, htx, hk01⟩ := hR
  have hs := okf_shp (by omega) ho
  have hsS := okf_shp (by omega) hos
  have heok := eR_ok htx
  have hrt := rR_le (nn tx) len
  refine liftN (c_X6_wornShare_ok l G ob a1 a2 a3 a4 a5 f th pa sn tx sz len spot hsn thr bad lt one two wh hash B (by omega) ho) (fun a s h => ⟨h.1, h.2.1, h.2.2.2⟩) (fun H hb => ?_)
  obtain ⟨hP1, hD1⟩ := hb
  exact ⟨_, hP1, hD1, ⟨_, _, _, _, _, _, _, _, _, _, _, _, _, _, _,  rfl, hsr, hpr⟩⟩

set_option maxHeartbeats 4000000 in
set_option maxRecDepth 100000 in
theorem MX_carriedShare_ok (l : Launch) (G : eG) {ob B : Nat} {f sf : Nat → Int32} {ff : Nat → Nat → Int32} {old sz len : Nat} {tx : Nat → Int32} {hsn thr : Int32} {M : va_W} (hM : RS G ob f sf ff old sz len tx hsn thr M) (hR : PR B f sf ff old sz len tx hsn) (hB : B < 700000000) : Met l yX6_carriedShare wsX6_carriedShare ({ frames := 1, cells := 0, slots := 0, locals := 21 }) (PJ [.ref ob] G (fun H => va_P G.1 vwCl M H ∧ va_D (fun _ => True) M)) (MV (some (.double (fCs f))) (fun H => ∃ M', RS G ob f sf ff old sz len tx hsn (nI 0) M' ∧ va_P G.1 vwCl M' H ∧ va_D (inW M) M') (inW M)) 0 0 (inW M) := by
  obtain ⟨a1, a2, a3, a4, a5, th, pa, sn, spot, bad, lt, one, two, wh, hash, rfl, hsr, hpr⟩ := hM
  obtain ⟨ho, hos, hof, hold, hz, htx, hk01⟩ := hR
  have hs := okf_shp (by omega) ho
  have hsS := okf_shp (by omega) hos
  have heok := eR_ok htx
  have hrt := rR_le (nn tx) len
  refine liftN (c_X6_carriedShare_ok l G ob a1 a2 a3 a4 a5 f th pa sn tx sz len spot hsn thr bad lt one two wh hash B (by omega) ho) (fun a s h => ⟨h.1, h.2.1, h.2.2.2⟩) (fun H hb => ?_)
  obtain ⟨hP1, hD1⟩ := hb
  exact ⟨_, hP1, hD1, ⟨_, _, _, _, _, _, _, _, _, _, _, _, _, _, _,  rfl, hsr, hpr⟩⟩

set_option maxHeartbeats 4000000 in
set_option maxRecDepth 100000 in
theorem MX_digest_ok (l : Launch) (G : eG) {ob B : Nat} {f sf : Nat → Int32} {ff : Nat → Nat → Int32} {old sz len : Nat} {tx : Nat → Int32} {hsn thr : Int32} {M : va_W} (hM : RS G ob f sf ff old sz len tx hsn thr M) (hR : PR B f sf ff old sz len tx hsn) (hB : B < 700000000) : Met l yX6_digest wsX6_digest ({ frames := 7, cells := 0, slots := 0, locals := 151 }) (PJ [.ref ob] G (fun H => va_P G.1 vwCl M H ∧ va_D (fun _ => True) M)) (MV (some (.long (dgF f sz len tx hsn))) (fun H => ∃ M', RS G ob f sf ff old sz len tx hsn (nI 0) M' ∧ va_P G.1 vwCl M' H ∧ va_D (inW M) M') (inW M)) 0 0 (inW M) := by
  obtain ⟨a1, a2, a3, a4, a5, th, pa, sn, spot, bad, lt, one, two, wh, hash, rfl, hsr, hpr⟩ := hM
  obtain ⟨ho, hos, hof, hold, hz, htx, hk01⟩ := hR
  have hs := okf_shp (by omega) ho
  have hsS := okf_shp (by omega) hos
  have heok := eR_ok htx
  have hrt := rR_le (nn tx) len
  refine liftN (c_X6_digest_ok l G ob a1 a2 a3 a4 a5 f th pa sn tx sz len spot hsn thr bad lt one two wh hash B (by omega) ho htx) (fun a s h => ⟨h.1, h.2.1, h.2.2.2⟩) (fun H hb => ?_)
  obtain ⟨th9, h9, hP1, hD1⟩ := hb
  exact ⟨_, hP1, hD1, ⟨_, _, _, _, _, _, _, _, _, _, _, _, _, _, _,  rfl, hsr, hpr⟩⟩
