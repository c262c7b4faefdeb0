/-- the bits of a share, any -/
theorem c_X5_floatBits_S (l : Launch) (G : eG) (v : UInt32) (h : Sh32 v) : Met l yX5_floatBits wsX5_floatBits ({ frames := 0, cells := 0, slots := 0, locals := 0 }) (PC [.float v] G (fun H => va_P G.1 vwCl [] H)) (PQ (some (.int v.toInt32))) 0 0 noA := by
  rcases h with rfl | ⟨c, q, h1, h2, rfl⟩
  · have k := c_X5_floatBits_0 l G
    rw [show nI 0 = (0 : UInt32).toInt32 from by decide +kernel] at k
    exact k
  · have k := c_X5_floatBits_1 l G c q h1 h2
    rw [← bits32 h1] at k
    exact k
theorem c_X5_doubleBits_S (l : Launch) (G : eG) (v : UInt64) (h : Sh64 v) : Met l yX5_doubleBits wsX5_doubleBits ({ frames := 0, cells := 0, slots := 0, locals := 0 }) (PC [.double v] G (fun H => va_P G.1 vwCl [] H)) (PQ (some (.long v.toInt64))) 0 0 noA := by
  rcases h with rfl | ⟨c, q, h1, h2, rfl⟩
  · have k := c_X5_doubleBits_0 l G
    rw [show (0 : Int64) = (0 : UInt64).toInt64 from by decide +kernel] at k
    exact k
  · have k := c_X5_doubleBits_1 l G c q h1 h2
    rw [show lN (bt64 c q) = (F64 c q).toInt64 from (bits64 h1).symm] at k
    exact k
/-! the digest -/
theorem mx_of {f : Nat → Int32} {h : Int64} {k j : Nat} (hj : j < 3) : 31 * mxL (fun k => (fOf f (k / 3) (k % 3)).toInt64) h (3 * k + j) + (fOf f k j).toInt64 = mxL (fun k => (fOf f (k / 3) (k % 3)).toInt64) h (3 * k + (j + 1)) := by
  show _ = 31 * mxL (fun k => (fOf f (k / 3) (k % 3)).toInt64) h (3 * k + j) + (fOf f ((3 * k + j) / 3) ((3 * k + j) % 3)).toInt64
  rw [show (3 * k + j) / 3 = k by omega, show (3 * k + j) % 3 = j by omega]
theorem mx_dk {f : Nat → Int32} {h : Int64} {b j : Nat} : 31 * (31 * mxL (fun k => (f (79 + 9 * b + 1 + 2 * (k / 2) + k % 2)).toInt64) h (2 * j) + (f (79 + 9 * b + 1 + 2 * j)).toInt64) + (f (79 + 9 * b + 2 + 2 * j)).toInt64 = mxL (fun k => (f (79 + 9 * b + 1 + 2 * (k / 2) + k % 2)).toInt64) h (2 * (j + 1)) := by
  show _ = 31 * (31 * mxL (fun k => (f (79 + 9 * b + 1 + 2 * (k / 2) + k % 2)).toInt64) h (2 * j) + (f (79 + 9 * b + 1 + 2 * (2 * j / 2) + 2 * j % 2)).toInt64) + (f (79 + 9 * b + 1 + 2 * ((2 * j + 1) / 2) + (2 * j + 1) % 2)).toInt64
  rw [show 79 + 9 * b + 1 + 2 * (2 * j / 2) + 2 * j % 2 = 79 + 9 * b + 1 + 2 * j by omega, show 79 + 9 * b + 1 + 2 * ((2 * j + 1) / 2) + (2 * j + 1) % 2 = 79 + 9 * b + 2 + 2 * j by omega]
theorem mx_p {g : Nat → Int64} {h : Int64} {i : Nat} (hi : 1 ≤ i) : 31 * mxL (fun k => g (1 + k)) h (i - 1) + g i = mxL (fun k => g (1 + k)) h (i + 1 - 1) := by
  obtain ⟨y, rfl⟩ : ∃ y, i = y + 1 := ⟨i - 1, by omega⟩
  show 31 * mxL (fun k => g (1 + k)) h y + g (y + 1) = 31 * mxL (fun k => g (1 + k)) h y + g (1 + y)
  rw [Nat.add_comm 1 y]
theorem mx_ls {f : Nat → Int32} {h : Int64} {i : Nat} (hi : 1 ≤ i) : 31 * mxL (fun k => (fLs f (1 + k)).toInt64) h (i - 1) + (fLs f i).toInt64 = mxL (fun k => (fLs f (1 + k)).toInt64) h (i + 1 - 1) := mx_p (g := fun k => (fLs f k).toInt64) hi
def hO1 (f : Nat → Int32) (h : Int64) : Int64 := 31 * (31 * (31 * (31 * (31 * h + (fRsn f).toInt64) + (nI (wkN f 20)).toInt64) + (fWl f 0).toInt64) + (fWl f 1).toInt64) + (nI (bN f 24)).toInt64
def hO2 (f : Nat → Int32) (h : Int64) : Int64 := mxL (fun k => (fLs f (1 + k)).toInt64) (hO1 f h) 4
def hO (f : Nat → Int32) (h : Int64) : Int64 := 31 * (31 * hO2 f h + (nI (nCr 100 f)).toInt64) + (fNd f).toInt64
def dgA (f : Nat → Int32) (n : Nat) : Int64 := hO f (mvV f (mxW f (mxL (fun k => (fCnt f n k).toInt64) 3301 14)))
def dgB (f : Nat → Int32) (n : Nat) (kp : Int32) : Int64 := 31 * (31 * (31 * dgA f n + ((fWs f).toInt32).toInt64) + (fCs f).toInt64) + (if kp = 0 then 0 else 1)
def dgF (f : Nat → Int32) (n len : Nat) (tx : Nat → Int32) (kp : Int32) : Int64 := mxL (fun k => (tx k).toInt64) (31 * dgB f n kp + (nI len).toInt64) len

set_option maxHeartbeats 4000000 in
set_option maxRecDepth 100000 in
theorem c_X5_mix (l : Launch) (G : eG) (h v : Int64) : Met l yX5_mix wsX5_mix ({ frames := 0, cells := 0, slots := 0, locals := 0 }) (PC [.long h, .long v] G (fun H => va_P G.1 vwCl [] H)) (PQ (some (.long (31 * h + v)))) 0 0 noA := by
  refine ofB (cc := cX5_mix) (maxL := 4) (ret := (some .long)) (by decide) rfl (Nat.le_of_ble_eq_true rfl) ?_
  intro p e s m below meth c hx hb hr hlocks hml hown hin hts hE hI ls hl
  replace hown : s.vm.findClass RX5 = some m.cls := hown
  have hl : lv_has ls 4 [(0, .long h), (2, .long v)] := hl
  have hP : va_P G.1 vwCl [] s.heap := hI
  have w_0 := hts (.constantLong RX5 337 (31)) (by decide +kernel)
  skip
  refine lv_ldc2 (v := 31) hx hb hown w_0 dX5_mix_0 ?_
  refine lv_lload_n hx hb dX5_mix_3 rfl (lv_at hl 0 rfl) ?_
  refine lv_lmul hx hb dX5_mix_4 ?_
  refine lv_lload_n hx hb dX5_mix_5 rfl (lv_at hl 1 rfl) ?_
  refine lv_ladd hx hb dX5_mix_6 ?_
  refine tS (st' := [.long (31 * h + v)]) (congrArg (fun z => [Value.long z]) ((by simp [b2]))) ?_
  exact W.lret hx hb hr (fun t ht hW => ⟨rfl, ht⟩) (fun _ h => nomatch h) dX5_mix_7
set_option maxHeartbeats 4000000 in
set_option maxRecDepth 100000 in
theorem c_X5_mixCounts (l : Launch) (G : eG) (fe ta sa ha oa : Nat) (hsn : Int32) (an : Nat → Nat) (f : Nat → Int32) (v0 v1 : Int32) (w : Nat → Nat → Int32) (sv old sz : Nat) (ad : Nat → Nat) (hs : Shp f) (h : Int64) : Met l yX5_mixCounts wsX5_mixCounts ({ frames := 3, cells := 0, slots := 0, locals := 62 }) (PC [.ref fe, .long h] G (fun H => va_P G.1 vwCl ([(fe, .inr (5, [.ref (an 0), .ref ta, .ref sa, .ref ha, .ref oa, .int hsn]))] ++ (cST G an f v0 v1 w ++ (cHI G ha sv old sz ad ++ ([])))) H)) (PQ (some (.long (mxL (fun k => (fCnt f sz k).toInt64) h 14)))) 0 0 noA := by
  refine ofB (cc := cX5_mixCounts) (maxL := 6) (ret := (some .long)) (by decide) rfl (Nat.le_of_ble_eq_true rfl) ?_
  intro p e s m below meth c hx hb hr hlocks hml hown hin hts hE hI ls hl
  replace hown : s.vm.findClass RX5 = some m.cls := hown
  have hl : lv_has ls 6 [(0, .ref fe), (1, .long h)] := hl
  have hP : va_P G.1 vwCl ([(fe, .inr (5, [.ref (an 0), .ref ta, .ref sa, .ref ha, .ref oa, .int hsn]))] ++ (cST G an f v0 v1 w ++ (cHI G ha sv old sz ad ++ ([])))) s.heap := hI
  skip
  refine lv_lload_n hx hb dX5_mixCounts_0 rfl (lv_at hl 1 rfl) ?_
  refine lv_lstore_n (lv' := [(3, .long h), (0, .ref fe), (1, .long h)]) hx hb dX5_mixCounts_1 rfl hl (by decide) rfl (fun ls hl => ?_)
  refine lv_iconst (v := nI 0) hx hb dX5_mixCounts_2 (by decide +kernel) ?_
  refine lv_istore (lv' := [(5, .int (nI 0)), (3, .long h), (0, .ref fe), (1, .long h)]) hx hb dX5_mixCounts_3 hl (by decide) rfl (fun ls hl => ?_)
  refine loopL (σ := Nat) (n := 6) (pc1 := 5) (fun i => 14 - i) (fun i => i ≤ 14) (fun i => [(5, .int (nI i)), (3, .long (mxL (fun k => (fCnt f sz k).toInt64) h i)), (0, .ref fe), (1, .long h)]) (fun i => []) ?_ (0) _ (Nat.zero_le _) (lv_sub hl [0, 1, 2, 3] rfl)
  rintro i ls hI hl ih5
  have hl : lv_has ls 6 [(5, .int (nI i)), (3, .long (mxL (fun k => (fCnt f sz k).toInt64) h i)), (0, .ref fe), (1, .long h)] := hl
  replace hI : i ≤ 14 := hI
  refine tS (st' := []) rfl ?_
  refine lv_iload hx hb dX5_mixCounts_5 (lv_at hl 0 rfl) ?_
  refine lv_bipush (v := nI 13) hx hb dX5_mixCounts_7 (by decide +kernel) ?_
  refine icmp_gtN (tgt := 30) hx hb (by omega) (by omega) dX5_mixCounts_9 (by decide) (fun c9 => ?_) (fun c9 => ?_)
  · skip
    have e9 : i = 14 := by omega
    rw [e9] at hl
    have hl : lv_has ls 6 [(5, .int (nI 14)), (3, .long (mxL (fun k => (fCnt f sz k).toInt64) h 14)), (0, .ref fe), (1, .long h)] := hl
    refine lv_lload_n hx hb dX5_mixCounts_30 rfl (lv_at hl 1 rfl) ?_
    exact W.lret hx hb hr (fun t ht hW => ⟨rfl, ht⟩) (fun _ h => nomatch h) dX5_mixCounts_31
  · skip
    refine lv_lload_n hx hb dX5_mixCounts_12 rfl (lv_at hl 1 rfl) ?_
    refine lv_aload_n hx hb dX5_mixCounts_13 rfl (lv_at hl 2 rfl) ?_
    refine lv_iload hx hb dX5_mixCounts_14 (lv_at hl 0 rfl) ?_
    replace hP : va_P G.1 vwCl (cHI G ha sv old sz ad ++ ([(fe, .inr (5, [.ref (an 0), .ref ta, .ref sa, .ref ha, .ref oa, .int hsn]))] ++ (cST G an f v0 v1 w ++ ([])))) s.heap := P_perm br2 hP
    replace hP : va_P G.1 vwCl (cST G an f v0 v1 w ++ (cHI G ha sv old sz ad ++ ([(fe, .inr (5, [.ref (an 0), .ref ta, .ref sa, .ref ha, .ref oa, .int hsn]))] ++ ([])))) s.heap := P_perm br2 hP
    replace hP : va_P G.1 vwCl ([(fe, .inr (5, [.ref (an 0), .ref ta, .ref sa, .ref ha, .ref oa, .int hsn]))] ++ (cST G an f v0 v1 w ++ (cHI G ha sv old sz ad ++ ([])))) s.heap := P_perm br2 hP
    have hPc : va_P G.1 vwCl ([(fe, .inr (5, [.ref (an 0), .ref ta, .ref sa, .ref ha, .ref oa, .int hsn]))] ++ (cST G an f v0 v1 w ++ (cHI G ha sv old sz ad ++ ([])))) s.heap := P_pre (w := ([(fe, .inr (5, [.ref (an 0), .ref ta, .ref sa, .ref ha, .ref oa, .int hsn]))] ++ (cST G an f v0 v1 w ++ (cHI G ha sv old sz ad ++ ([]))))) (r := []) (by simpa only [List.append_assoc, List.nil_append, List.append_nil] using hP)
    refine pcall (st1 := [.int (fCnt f sz i), .long (mxL (fun k => (fCnt f sz k).toInt64) h i)]) (va_runV (As := [.int (nI i)]) (rest := [.long (mxL (fun k => (fCnt f sz k).toInt64) h i)]) ⟨hx, hb, hml, hown, hts⟩ (c_X5_count_ok l G fe ta sa ha oa hsn an f v0 v1 w sv old sz ad hs i (by omega)) (cwV 1 hts gX5_mixCounts_X5_count rfl rfl rfl (by decide +kernel) ⟨Nat.le_of_ble_eq_true rfl, Nat.le_of_ble_eq_true rfl⟩) (PC.preV hE (va_recv hE.1 hP (ci := 5) (q0 := 0) rfl rfl) hPc) rfl rfl hl.1 rfl (lv_room (Nat.le_of_ble_eq_true rfl)) dX5_mixCounts_16 ⟨Nat.zero_le _, Nat.zero_le _⟩) rfl ?_
    refine lv_i2l (v := (fCnt f sz i).toInt64) hx hb dX5_mixCounts_19 rfl ?_
    refine pcall (st1 := [.long (31 * (mxL (fun k => (fCnt f sz k).toInt64) h i) + ((fCnt f sz i).toInt64))]) (va_runS (As := [.long (mxL (fun k => (fCnt f sz k).toInt64) h i), .long ((fCnt f sz i).toInt64)]) (rest := []) ⟨hx, hb, hml, hown, hts⟩ (c_X5_mix l G (mxL (fun k => (fCnt f sz k).toInt64) h i) ((fCnt f sz i).toInt64)) (va_cwS 2 hts gX5_mixCounts_X5_mix rfl rfl rfl (by decide +kernel) ⟨Nat.le_of_ble_eq_true rfl, Nat.le_of_ble_eq_true rfl⟩) (PC.preS hE P_nil) rfl rfl hl.1 rfl (lv_room (Nat.le_of_ble_eq_true rfl)) dX5_mixCounts_20 ⟨Nat.zero_le _, Nat.zero_le _⟩) rfl ?_
    refine lv_lstore_n (lv' := [(3, .long (31 * (mxL (fun k => (fCnt f sz k).toInt64) h i) + ((fCnt f sz i).toInt64))), (5, .int (nI i)), (0, .ref fe), (1, .long h)]) hx hb dX5_mixCounts_23 rfl hl (by decide) rfl (fun ls hl => ?_)
    refine lv_iinc (v := nI (i + 1)) (lv' := [(5, .int (nI (i + 1))), (3, .long (31 * (mxL (fun k => (fCnt f sz k).toInt64) h i) + ((fCnt f sz i).toInt64))), (0, .ref fe), (1, .long h)]) hx hb dX5_mixCounts_24 hl (k := 1) rfl (nI_inc1 _) (by decide) rfl (fun ls hl => ?_)
    refine lv_goto (tgt := 5) hx hb dX5_mixCounts_27 (by decide) ?_
    exact ih5 (i + 1) _ (by omega) (lv_sub hl [0, 1, 2, 3] rfl) (by (try dsimp only); omega)
set_option maxHeartbeats 4000000 in
set_option maxRecDepth 100000 in
theorem c_X5_mixRiverAndWire (l : Launch) (G : eG) (fe ta sa ha oa : Nat) (hsn : Int32) (an : Nat → Nat) (f : Nat → Int32) (v0 v1 : Int32) (w : Nat → Nat → Int32) (hs : Shp f) (h : Int64) : Met l yX5_mixRiverAndWire wsX5_mixRiverAndWire ({ frames := 4, cells := 0, slots := 0, locals := 90 }) (PC [.ref fe, .long h] G (fun H => va_P G.1 vwCl ([(fe, .inr (5, [.ref (an 0), .ref ta, .ref sa, .ref ha, .ref oa, .int hsn]))] ++ (cST G an f v0 v1 w ++ ([]))) H)) (PQ (some (.long (mxW f h)))) 0 0 noA := by
  refine ofB (cc := cX5_mixRiverAndWire) (maxL := 7) (ret := (some .long)) (by decide) rfl (Nat.le_of_ble_eq_true rfl) ?_
  intro p e s m below meth c hx hb hr hlocks hml hown hin hts hE hI ls hl
  replace hown : s.vm.findClass RX5 = some m.cls := hown
  have hl : lv_has ls 7 [(0, .ref fe), (1, .long h)] := hl
  have hP : va_P G.1 vwCl ([(fe, .inr (5, [.ref (an 0), .ref ta, .ref sa, .ref ha, .ref oa, .int hsn]))] ++ (cST G an f v0 v1 w ++ ([]))) s.heap := hI
  skip
  refine lv_lload_n hx hb dX5_mixRiverAndWire_0 rfl (lv_at hl 1 rfl) ?_
  refine lv_lstore_n (lv' := [(3, .long h), (0, .ref fe), (1, .long h)]) hx hb dX5_mixRiverAndWire_1 rfl hl (by decide) rfl (fun ls hl => ?_)
  refine lv_iconst (v := nI 0) hx hb dX5_mixRiverAndWire_2 (by decide +kernel) ?_
  refine lv_istore (lv' := [(5, .int (nI 0)), (3, .long h), (0, .ref fe), (1, .long h)]) hx hb dX5_mixRiverAndWire_3 hl (by decide) rfl (fun ls hl => ?_)
  refine loopL (σ := Nat) (n := 7) (pc1 := 5) (fun i => 3 - i) (fun i => i ≤ 3) (fun i => [(5, .int (nI i)), (3, .long (mxL (fun k => (f k).toInt64) h i)), (0, .ref fe), (1, .long h)]) (fun i => []) ?_ (0) _ (Nat.zero_le _) (lv_sub hl [0, 1, 2, 3] rfl)
  rintro i ls hI hl ih5
  have hl : lv_has ls 7 [(5, .int (nI i)), (3, .long (mxL (fun k => (f k).toInt64) h i)), (0, .ref fe), (1, .long h)] := hl
  replace hI : i ≤ 3 := hI
  refine tS (st' := []) rfl ?_
  refine lv_iload hx hb dX5_mixRiverAndWire_5 (lv_at hl 0 rfl) ?_
  refine lv_iconst (v := nI 3) hx hb dX5_mixRiverAndWire_7 (by decide +kernel) ?_
  refine icmp_geN (tgt := 29) hx hb (by omega) (by omega) dX5_mixRiverAndWire_8 (by decide) (fun c8 => ?_) (fun c8 => ?_)
  · skip
    have e9 : i = 3 := by omega
    rw [e9] at hl
    have hl : lv_has ls 7 [(5, .int (nI 3)), (3, .long (mxL (fun k => (f k).toInt64) h 3)), (0, .ref fe), (1, .long h)] := hl
    refine lv_iconst (v := nI 0) hx hb dX5_mixRiverAndWire_29 (by decide +kernel) ?_
    refine lv_istore (lv' := [(5, .int (nI 0)), (3, .long (mxL (fun k => (f k).toInt64) h 3)), (0, .ref fe), (1, .long h)]) hx hb dX5_mixRiverAndWire_30 hl (by decide) rfl (fun ls hl => ?_)
    refine loopL (σ := Nat) (n := 7) (pc1 := 32) (fun i2 => 24 - i2) (fun i2 => i2 ≤ 24) (fun i2 => [(5, .int (nI i2)), (3, .long (mxL (fun k => (f (3 + k)).toInt64) (mxL (fun k => (f k).toInt64) h 3) i2)), (0, .ref fe), (1, .long h)]) (fun i2 => []) ?_ (0) _ (Nat.zero_le _) (lv_sub hl [0, 1, 2, 3] rfl)
    rintro i2 ls hI hl ih32
    have hl : lv_has ls 7 [(5, .int (nI i2)), (3, .long (mxL (fun k => (f (3 + k)).toInt64) (mxL (fun k => (f k).toInt64) h 3) i2)), (0, .ref fe), (1, .long h)] := hl
    replace hI : i2 ≤ 24 := hI
    refine tS (st' := []) rfl ?_
    refine lv_iload hx hb dX5_mixRiverAndWire_32 (lv_at hl 0 rfl) ?_
    refine lv_bipush (v := nI 24) hx hb dX5_mixRiverAndWire_34 (by decide +kernel) ?_
    refine icmp_geN (tgt := 57) hx hb (by omega) (by omega) dX5_mixRiverAndWire_36 (by decide) (fun c36 => ?_) (fun c36 => ?_)
    · skip
      have e9 : i2 = 24 := by omega
      rw [e9] at hl
      have hl : lv_has ls 7 [(5, .int (nI 24)), (3, .long (mxL (fun k => (f (3 + k)).toInt64) (mxL (fun k => (f k).toInt64) h 3) 24)), (0, .ref fe), (1, .long h)] := hl
      refine lv_iconst (v := nI 0) hx hb dX5_mixRiverAndWire_57 (by decide +kernel) ?_
      refine lv_istore (lv' := [(5, .int (nI 0)), (3, .long (mxL (fun k => (f (3 + k)).toInt64) (mxL (fun k => (f k).toInt64) h 3) 24)), (0, .ref fe), (1, .long h)]) hx hb dX5_mixRiverAndWire_58 hl (by decide) rfl (fun ls hl => ?_)
      refine loopL (σ := Nat) (n := 7) (pc1 := 60) (fun k3 => 20 - k3) (fun k3 => k3 ≤ 20) (fun k3 => [(5, .int (nI k3)), (3, .long (mxL (fun k => (fOf f (k / 3) (k % 3)).toInt64) (mxL (fun k => (f (3 + k)).toInt64) (mxL (fun k => (f k).toInt64) h 3) 24) (3 * k3))), (0, .ref fe), (1, .long h)]) (fun k3 => []) ?_ (0) _ (Nat.zero_le _) (lv_sub hl [0, 1, 2, 3] rfl)
      rintro k3 ls hI hl ih60
      have hl : lv_has ls 7 [(5, .int (nI k3)), (3, .long (mxL (fun k => (fOf f (k / 3) (k % 3)).toInt64) (mxL (fun k => (f (3 + k)).toInt64) (mxL (fun k => (f k).toInt64) h 3) 24) (3 * k3))), (0, .ref fe), (1, .long h)] := hl
      replace hI : k3 ≤ 20 := hI
      refine tS (st' := []) rfl ?_
      refine lv_iload hx hb dX5_mixRiverAndWire_60 (lv_at hl 0 rfl) ?_
      refine lv_bipush (v := nI 20) hx hb dX5_mixRiverAndWire_62 (by decide +kernel) ?_
      refine icmp_geN (tgt := 102) hx hb (by omega) (by omega) dX5_mixRiverAndWire_64 (by decide) (fun c64 => ?_) (fun c64 => ?_)
      · skip
        rw [show 3 * k3 = 60 by omega] at hl
        have hl : lv_has ls 7 [(5, .int (nI k3)), (3, .long (mxL (fun k => (fOf f (k / 3) (k % 3)).toInt64) (mxL (fun k => (f (3 + k)).toInt64) (mxL (fun k => (f k).toInt64) h 3) 24) 60)), (0, .ref fe), (1, .long h)] := hl
        refine lv_lload_n hx hb dX5_mixRiverAndWire_102 rfl (lv_at hl 1 rfl) ?_
        refine tS (st' := [.long (mxW f h)]) (congrArg (fun z => [Value.long z]) (rfl)) ?_
        exact W.lret hx hb hr (fun t ht hW => ⟨rfl, ht⟩) (fun _ h => nomatch h) dX5_mixRiverAndWire_103
      · skip
        refine lv_iconst (v := nI 0) hx hb dX5_mixRiverAndWire_67 (by decide +kernel) ?_
        refine lv_istore (lv' := [(6, .int (nI 0)), (5, .int (nI k3)), (3, .long (mxL (fun k => (fOf f (k / 3) (k % 3)).toInt64) (mxL (fun k => (f (3 + k)).toInt64) (mxL (fun k => (f k).toInt64) h 3) 24) (3 * k3))), (0, .ref fe), (1, .long h)]) hx hb dX5_mixRiverAndWire_68 hl (by decide) rfl (fun ls hl => ?_)
        refine loopL (σ := Nat) (n := 7) (pc1 := 70) (fun j => 3 - j) (fun j => j ≤ 3) (fun j => [(6, .int (nI j)), (5, .int (nI k3)), (3, .long (mxL (fun k => (fOf f (k / 3) (k % 3)).toInt64) (mxL (fun k => (f (3 + k)).toInt64) (mxL (fun k => (f k).toInt64) h 3) 24) (3 * k3 + j))), (0, .ref fe), (1, .long h)]) (fun j => []) ?_ (0) _ (Nat.zero_le _) (lv_sub hl [0, 1, 2, 3, 4] rfl)
        rintro j ls hI hl ih70
        have hl : lv_has ls 7 [(6, .int (nI j)), (5, .int (nI k3)), (3, .long (mxL (fun k => (fOf f (k / 3) (k % 3)).toInt64) (mxL (fun k => (f (3 + k)).toInt64) (mxL (fun k => (f k).toInt64) h 3) 24) (3 * k3 + j))), (0, .ref fe), (1, .long h)] := hl
        replace hI : j ≤ 3 := hI
        refine tS (st' := []) rfl ?_
        refine lv_iload hx hb dX5_mixRiverAndWire_70 (lv_at hl 0 rfl) ?_
        refine lv_iconst (v := nI 2) hx hb dX5_mixRiverAndWire_72 (by decide +kernel) ?_
        refine icmp_gtN (tgt := 96) hx hb (by omega) (by omega) dX5_mixRiverAndWire_73 (by decide) (fun c73 => ?_) (fun c73 => ?_)
        · skip
          rw [show 3 * k3 + j = 3 * (k3 + 1) by omega] at hl
          have hl : lv_has ls 7 [(6, .int (nI j)), (5, .int (nI k3)), (3, .long (mxL (fun k => (fOf f (k / 3) (k % 3)).toInt64) (mxL (fun k => (f (3 + k)).toInt64) (mxL (fun k => (f k).toInt64) h 3) 24) (3 * (k3 + 1)))), (0, .ref fe), (1, .long h)] := hl
          refine lv_iinc (v := nI (k3 + 1)) (lv' := [(5, .int (nI (k3 + 1))), (6, .int (nI j)), (3, .long (mxL (fun k => (fOf f (k / 3) (k % 3)).toInt64) (mxL (fun k => (f (3 + k)).toInt64) (mxL (fun k => (f k).toInt64) h 3) 24) (3 * (k3 + 1)))), (0, .ref fe), (1, .long h)]) hx hb dX5_mixRiverAndWire_96 hl (k := 1) rfl (nI_inc1 _) (by decide) rfl (fun ls hl => ?_)
          refine lv_goto (tgt := 60) hx hb dX5_mixRiverAndWire_99 (by decide) ?_
          exact ih60 (k3 + 1) _ (by omega) (lv_sub hl [0, 2, 3, 4] rfl) (by (try dsimp only); omega)
        · skip
          refine lv_lload_n hx hb dX5_mixRiverAndWire_76 rfl (lv_at hl 2 rfl) ?_
          refine lv_aload_n hx hb dX5_mixRiverAndWire_77 rfl (lv_at hl 3 rfl) ?_
          refine lv_iload hx hb dX5_mixRiverAndWire_78 (lv_at hl 1 rfl) ?_
          refine lv_iload hx hb dX5_mixRiverAndWire_80 (lv_at hl 0 rfl) ?_
          replace hP : va_P G.1 vwCl (cST G an f v0 v1 w ++ ([(fe, .inr (5, [.ref (an 0), .ref ta, .ref sa, .ref ha, .ref oa, .int hsn]))] ++ ([]))) s.heap := P_perm br1 hP
          replace hP : va_P G.1 vwCl ([(fe, .inr (5, [.ref (an 0), .ref ta, .ref sa, .ref ha, .ref oa, .int hsn]))] ++ (cST G an f v0 v1 w ++ ([]))) s.heap := P_perm br1 hP
          have hPc : va_P G.1 vwCl ([(fe, .inr (5, [.ref (an 0), .ref ta, .ref sa, .ref ha, .ref oa, .int hsn]))] ++ (cST G an f v0 v1 w ++ ([]))) s.heap := P_pre (w := ([(fe, .inr (5, [.ref (an 0), .ref ta, .ref sa, .ref ha, .ref oa, .int hsn]))] ++ (cST G an f v0 v1 w ++ ([])))) (r := []) (by simpa only [List.append_assoc, List.nil_append, List.append_nil] using hP)
          refine pcall (st1 := [.int (fOf f k3 j), .long (mxL (fun k => (fOf f (k / 3) (k % 3)).toInt64) (mxL (fun k => (f (3 + k)).toInt64) (mxL (fun k => (f k).toInt64) h 3) 24) (3 * k3 + j))]) (va_runV (As := [.int (nI k3), .int (nI j)]) (rest := [.long (mxL (fun k => (fOf f (k / 3) (k % 3)).toInt64) (mxL (fun k => (f (3 + k)).toInt64) (mxL (fun k => (f k).toInt64) h 3) 24) (3 * k3 + j))]) ⟨hx, hb, hml, hown, hts⟩ (c_X5_section_ok l G fe ta sa ha oa hsn an f v0 v1 w hs k3 j (by omega) (by omega)) (cwV 2 hts gX5_mixRiverAndWire_X5_section rfl rfl rfl (by decide +kernel) ⟨Nat.le_of_ble_eq_true rfl, Nat.le_of_ble_eq_true rfl⟩) (PC.preV hE (va_recv hE.1 hP (ci := 5) (q0 := 0) rfl rfl) hPc) rfl rfl hl.1 rfl (lv_room (Nat.le_of_ble_eq_true rfl)) dX5_mixRiverAndWire_82 ⟨Nat.zero_le _, Nat.zero_le _⟩) rfl ?_
          refine lv_i2l (v := (fOf f k3 j).toInt64) hx hb dX5_mixRiverAndWire_85 rfl ?_
          refine pcall (st1 := [.long (31 * (mxL (fun k => (fOf f (k / 3) (k % 3)).toInt64) (mxL (fun k => (f (3 + k)).toInt64) (mxL (fun k => (f k).toInt64) h 3) 24) (3 * k3 + j)) + ((fOf f k3 j).toInt64))]) (va_runS (As := [.long (mxL (fun k => (fOf f (k / 3) (k % 3)).toInt64) (mxL (fun k => (f (3 + k)).toInt64) (mxL (fun k => (f k).toInt64) h 3) 24) (3 * k3 + j)), .long ((fOf f k3 j).toInt64)]) (rest := []) ⟨hx, hb, hml, hown, hts⟩ (c_X5_mix l G (mxL (fun k => (fOf f (k / 3) (k % 3)).toInt64) (mxL (fun k => (f (3 + k)).toInt64) (mxL (fun k => (f k).toInt64) h 3) 24) (3 * k3 + j)) ((fOf f k3 j).toInt64)) (va_cwS 2 hts gX5_mixRiverAndWire_X5_mix rfl rfl rfl (by decide +kernel) ⟨Nat.le_of_ble_eq_true rfl, Nat.le_of_ble_eq_true rfl⟩) (PC.preS hE P_nil) rfl rfl hl.1 rfl (lv_room (Nat.le_of_ble_eq_true rfl)) dX5_mixRiverAndWire_86 ⟨Nat.zero_le _, Nat.zero_le _⟩) rfl ?_
          refine tS (st' := [.long (mxL (fun k => (fOf f (k / 3) (k % 3)).toInt64) (mxL (fun k => (f (3 + k)).toInt64) (mxL (fun k => (f k).toInt64) h 3) 24) (3 * k3 + (j + 1)))]) (congrArg (fun z => Value.long z :: []) (mx_of (by omega))) ?_
          refine lv_lstore_n (lv' := [(3, .long (mxL (fun k => (fOf f (k / 3) (k % 3)).toInt64) (mxL (fun k => (f (3 + k)).toInt64) (mxL (fun k => (f k).toInt64) h 3) 24) (3 * k3 + (j + 1)))), (6, .int (nI j)), (5, .int (nI k3)), (0, .ref fe), (1, .long h)]) hx hb dX5_mixRiverAndWire_89 rfl hl (by decide) rfl (fun ls hl => ?_)
          refine lv_iinc (v := nI (j + 1)) (lv' := [(6, .int (nI (j + 1))), (3, .long (mxL (fun k => (fOf f (k / 3) (k % 3)).toInt64) (mxL (fun k => (f (3 + k)).toInt64) (mxL (fun k => (f k).toInt64) h 3) 24) (3 * k3 + (j + 1)))), (5, .int (nI k3)), (0, .ref fe), (1, .long h)]) hx hb dX5_mixRiverAndWire_90 hl (k := 1) rfl (nI_inc1 _) (by decide) rfl (fun ls hl => ?_)
          refine lv_goto (tgt := 70) hx hb dX5_mixRiverAndWire_93 (by decide) ?_
          exact ih70 (j + 1) _ (by omega) (lv_sub hl [0, 2, 1, 3, 4] rfl) (by (try dsimp only); omega)
    · skip
      refine lv_lload_n hx hb dX5_mixRiverAndWire_39 rfl (lv_at hl 1 rfl) ?_
      refine lv_aload_n hx hb dX5_mixRiverAndWire_40 rfl (lv_at hl 2 rfl) ?_
      refine lv_iload hx hb dX5_mixRiverAndWire_41 (lv_at hl 0 rfl) ?_
      replace hP : va_P G.1 vwCl (cST G an f v0 v1 w ++ ([(fe, .inr (5, [.ref (an 0), .ref ta, .ref sa, .ref ha, .ref oa, .int hsn]))] ++ ([]))) s.heap := P_perm br1 hP
      replace hP : va_P G.1 vwCl ([(fe, .inr (5, [.ref (an 0), .ref ta, .ref sa, .ref ha, .ref oa, .int hsn]))] ++ (cST G an f v0 v1 w ++ ([]))) s.heap := P_perm br1 hP
      have hPc : va_P G.1 vwCl ([(fe, .inr (5, [.ref (an 0), .ref ta, .ref sa, .ref ha, .ref oa, .int hsn]))] ++ (cST G an f v0 v1 w ++ ([]))) s.heap := P_pre (w := ([(fe, .inr (5, [.ref (an 0), .ref ta, .ref sa, .ref ha, .ref oa, .int hsn]))] ++ (cST G an f v0 v1 w ++ ([])))) (r := []) (by simpa only [List.append_assoc, List.nil_append, List.append_nil] using hP)
      refine pcall (st1 := [.int (f (3 + i2)), .long (mxL (fun k => (f (3 + k)).toInt64) (mxL (fun k => (f k).toInt64) h 3) i2)]) (va_runV (As := [.int (nI i2)]) (rest := [.long (mxL (fun k => (f (3 + k)).toInt64) (mxL (fun k => (f k).toInt64) h 3) i2)]) ⟨hx, hb, hml, hown, hts⟩ (c_X5_currentOf_ok l G fe ta sa ha oa hsn an f v0 v1 w i2 (by omega)) (cwV 1 hts gX5_mixRiverAndWire_X5_currentOf rfl rfl rfl (by decide +kernel) ⟨Nat.le_of_ble_eq_true rfl, Nat.le_of_ble_eq_true rfl⟩) (PC.preV hE (va_recv hE.1 hP (ci := 5) (q0 := 0) rfl rfl) hPc) rfl rfl hl.1 rfl (lv_room (Nat.le_of_ble_eq_true rfl)) dX5_mixRiverAndWire_43 ⟨Nat.zero_le _, Nat.zero_le _⟩) rfl ?_
      refine lv_i2l (v := (f (3 + i2)).toInt64) hx hb dX5_mixRiverAndWire_46 rfl ?_
      refine pcall (st1 := [.long (31 * (mxL (fun k => (f (3 + k)).toInt64) (mxL (fun k => (f k).toInt64) h 3) i2) + ((f (3 + i2)).toInt64))]) (va_runS (As := [.long (mxL (fun k => (f (3 + k)).toInt64) (mxL (fun k => (f k).toInt64) h 3) i2), .long ((f (3 + i2)).toInt64)]) (rest := []) ⟨hx, hb, hml, hown, hts⟩ (c_X5_mix l G (mxL (fun k => (f (3 + k)).toInt64) (mxL (fun k => (f k).toInt64) h 3) i2) ((f (3 + i2)).toInt64)) (va_cwS 2 hts gX5_mixRiverAndWire_X5_mix rfl rfl rfl (by decide +kernel) ⟨Nat.le_of_ble_eq_true rfl, Nat.le_of_ble_eq_true rfl⟩) (PC.preS hE P_nil) rfl rfl hl.1 rfl (lv_room (Nat.le_of_ble_eq_true rfl)) dX5_mixRiverAndWire_47 ⟨Nat.zero_le _, Nat.zero_le _⟩) rfl ?_
      refine lv_lstore_n (lv' := [(3, .long (31 * (mxL (fun k => (f (3 + k)).toInt64) (mxL (fun k => (f k).toInt64) h 3) i2) + ((f (3 + i2)).toInt64))), (5, .int (nI i2)), (0, .ref fe), (1, .long h)]) hx hb dX5_mixRiverAndWire_50 rfl hl (by decide) rfl (fun ls hl => ?_)
      refine lv_iinc (v := nI (i2 + 1)) (lv' := [(5, .int (nI (i2 + 1))), (3, .long (31 * (mxL (fun k => (f (3 + k)).toInt64) (mxL (fun k => (f k).toInt64) h 3) i2) + ((f (3 + i2)).toInt64))), (0, .ref fe), (1, .long h)]) hx hb dX5_mixRiverAndWire_51 hl (k := 1) rfl (nI_inc1 _) (by decide) rfl (fun ls hl => ?_)
      refine lv_goto (tgt := 32) hx hb dX5_mixRiverAndWire_54 (by decide) ?_
      exact ih32 (i2 + 1) _ (by omega) (lv_sub hl [0, 1, 2, 3] rfl) (by (try dsimp only); omega)
  · skip
    refine lv_lload_n hx hb dX5_mixRiverAndWire_11 rfl (lv_at hl 1 rfl) ?_
    refine lv_aload_n hx hb dX5_mixRiverAndWire_12 rfl (lv_at hl 2 rfl) ?_
    refine lv_iload hx hb dX5_mixRiverAndWire_13 (lv_at hl 0 rfl) ?_
    replace hP : va_P G.1 vwCl (cST G an f v0 v1 w ++ ([(fe, .inr (5, [.ref (an 0), .ref ta, .ref sa, .ref ha, .ref oa, .int hsn]))] ++ ([]))) s.heap := P_perm br1 hP
    replace hP : va_P G.1 vwCl ([(fe, .inr (5, [.ref (an 0), .ref ta, .ref sa, .ref ha, .ref oa, .int hsn]))] ++ (cST G an f v0 v1 w ++ ([]))) s.heap := P_perm br1 hP
    have hPc : va_P G.1 vwCl ([(fe, .inr (5, [.ref (an 0), .ref ta, .ref sa, .ref ha, .ref oa, .int hsn]))] ++ (cST G an f v0 v1 w ++ ([]))) s.heap := P_pre (w := ([(fe, .inr (5, [.ref (an 0), .ref ta, .ref sa, .ref ha, .ref oa, .int hsn]))] ++ (cST G an f v0 v1 w ++ ([])))) (r := []) (by simpa only [List.append_assoc, List.nil_append, List.append_nil] using hP)
    refine pcall (st1 := [.int (f i), .long (mxL (fun k => (f k).toInt64) h i)]) (va_runV (As := [.int (nI i)]) (rest := [.long (mxL (fun k => (f k).toInt64) h i)]) ⟨hx, hb, hml, hown, hts⟩ (c_X5_setting_ok l G fe ta sa ha oa hsn an f v0 v1 w i (by omega)) (cwV 1 hts gX5_mixRiverAndWire_X5_setting rfl rfl rfl (by decide +kernel) ⟨Nat.le_of_ble_eq_true rfl, Nat.le_of_ble_eq_true rfl⟩) (PC.preV hE (va_recv hE.1 hP (ci := 5) (q0 := 0) rfl rfl) hPc) rfl rfl hl.1 rfl (lv_room (Nat.le_of_ble_eq_true rfl)) dX5_mixRiverAndWire_15 ⟨Nat.zero_le _, Nat.zero_le _⟩) rfl ?_
    refine lv_i2l (v := (f i).toInt64) hx hb dX5_mixRiverAndWire_18 rfl ?_
    refine pcall (st1 := [.long (31 * (mxL (fun k => (f k).toInt64) h i) + ((f i).toInt64))]) (va_runS (As := [.long (mxL (fun k => (f k).toInt64) h i), .long ((f i).toInt64)]) (rest := []) ⟨hx, hb, hml, hown, hts⟩ (c_X5_mix l G (mxL (fun k => (f k).toInt64) h i) ((f i).toInt64)) (va_cwS 2 hts gX5_mixRiverAndWire_X5_mix rfl rfl rfl (by decide +kernel) ⟨Nat.le_of_ble_eq_true rfl, Nat.le_of_ble_eq_true rfl⟩) (PC.preS hE P_nil) rfl rfl hl.1 rfl (lv_room (Nat.le_of_ble_eq_true rfl)) dX5_mixRiverAndWire_19 ⟨Nat.zero_le _, Nat.zero_le _⟩) rfl ?_
    refine lv_lstore_n (lv' := [(3, .long (31 * (mxL (fun k => (f k).toInt64) h i) + ((f i).toInt64))), (5, .int (nI i)), (0, .ref fe), (1, .long h)]) hx hb dX5_mixRiverAndWire_22 rfl hl (by decide) rfl (fun ls hl => ?_)
    refine lv_iinc (v := nI (i + 1)) (lv' := [(5, .int (nI (i + 1))), (3, .long (31 * (mxL (fun k => (f k).toInt64) h i) + ((f i).toInt64))), (0, .ref fe), (1, .long h)]) hx hb dX5_mixRiverAndWire_23 hl (k := 1) rfl (nI_inc1 _) (by decide) rfl (fun ls hl => ?_)
    refine lv_goto (tgt := 5) hx hb dX5_mixRiverAndWire_26 (by decide) ?_
    exact ih5 (i + 1) _ (by omega) (lv_sub hl [0, 1, 2, 3] rfl) (by (try dsimp only); omega)
set_option maxHeartbeats 4000000 in
set_option maxRecDepth 100000 in
theorem c_X5_mixVehicles (l : Launch) (G : eG) (fe ta sa ha oa : Nat) (hsn : Int32) (an : Nat → Nat) (f : Nat → Int32) (v0 v1 : Int32) (w : Nat → Nat → Int32) (hs : Shp f) (hcp : CplW f w) (h : Int64) : Met l yX5_mixVehicles wsX5_mixVehicles ({ frames := 2, cells := 0, slots := 0, locals := 42 }) (PC [.ref fe, .long h] G (fun H => va_P G.1 vwCl ([(fe, .inr (5, [.ref (an 0), .ref ta, .ref sa, .ref ha, .ref oa, .int hsn]))] ++ (cST G an f v0 v1 w ++ ([]))) H)) (PQ (some (.long (mvV f h)))) 0 0 noA := by
  refine ofB (cc := cX5_mixVehicles) (maxL := 8) (ret := (some .long)) (by decide) rfl (Nat.le_of_ble_eq_true rfl) ?_
  intro p e s m below meth c hx hb hr hlocks hml hown hin hts hE hI ls hl
  replace hown : s.vm.findClass RX5 = some m.cls := hown
  have hl : lv_has ls 8 [(0, .ref fe), (1, .long h)] := hl
  have hP : va_P G.1 vwCl ([(fe, .inr (5, [.ref (an 0), .ref ta, .ref sa, .ref ha, .ref oa, .int hsn]))] ++ (cST G an f v0 v1 w ++ ([]))) s.heap := hI
  have w_0 : ∀ w ∈ u_ws RX5 TX5 6, w ∈ wsX5_mixVehicles := by decide +kernel
  have w_1 := hts (.fieldLink RX5 10 "CableFerry" "now" "LCableFerry$State;") (by decide +kernel)
  have q0 : nn f 57 ≤ 10 := (hs.2.1 0 (by omega)).2
  have q1 : nn f 68 ≤ 10 := (hs.2.1 1 (by omega)).2
  have n0 : nn f 79 ≤ 4 := (hs.1 0 (by omega)).2
  have n1 : nn f 88 ≤ 4 := (hs.1 1 (by omega)).2
  obtain ⟨h51, h51b⟩ := hs.2.2.1
  refine lv_lload_n hx hb dX5_mixVehicles_0 rfl (lv_at hl 1 rfl) ?_
  refine lv_lstore_n (lv' := [(3, .long h), (0, .ref fe), (1, .long h)]) hx hb dX5_mixVehicles_1 rfl hl (by decide) rfl (fun ls hl => ?_)
  refine lv_iconst (v := nI 0) hx hb dX5_mixVehicles_2 (by decide +kernel) ?_
  refine lv_istore (lv' := [(5, .int (nI 0)), (3, .long h), (0, .ref fe), (1, .long h)]) hx hb dX5_mixVehicles_3 hl (by decide) rfl (fun ls hl => ?_)
  refine loopL (σ := Nat) (n := 8) (pc1 := 5) (fun b => 2 - b) (fun b => b ≤ 2) (fun b => [(5, .int (nI b)), (3, .long (mvB f h b)), (0, .ref fe), (1, .long h)]) (fun b => []) ?_ (0) _ (Nat.zero_le _) (lv_sub hl [0, 1, 2, 3] rfl)
  rintro b ls hI hl ih5
  have hl : lv_has ls 8 [(5, .int (nI b)), (3, .long (mvB f h b)), (0, .ref fe), (1, .long h)] := hl
  replace hI : b ≤ 2 := hI
  refine tS (st' := []) rfl ?_
  refine lv_iload hx hb dX5_mixVehicles_5 (lv_at hl 0 rfl) ?_
  refine lv_iconst (v := nI 2) hx hb dX5_mixVehicles_7 (by decide +kernel) ?_
  refine icmp_geN (tgt := 71) hx hb (by omega) (by omega) dX5_mixVehicles_8 (by decide) (fun c8 => ?_) (fun c8 => ?_)
  · skip
    have e2 : b = 2 := by omega
    rw [e2] at hl
    have hl : lv_has ls 8 [(5, .int (nI 2)), (3, .long (mvB f h 2)), (0, .ref fe), (1, .long h)] := hl
    refine lv_iconst (v := nI 0) hx hb dX5_mixVehicles_71 (by decide +kernel) ?_
    refine lv_istore (lv' := [(5, .int (nI 0)), (3, .long (mvB f h 2)), (0, .ref fe), (1, .long h)]) hx hb dX5_mixVehicles_72 hl (by decide) rfl (fun ls hl => ?_)
    refine loopL (σ := Nat) (n := 8) (pc1 := 74) (fun b3 => 2 - b3) (fun b3 => b3 ≤ 2) (fun b3 => [(5, .int (nI b3)), (3, .long (mvL f (mvB f h 2) b3)), (0, .ref fe), (1, .long h)]) (fun b3 => []) ?_ (0) _ (Nat.zero_le _) (lv_sub hl [0, 1, 2, 3] rfl)
    rintro b3 ls hI hl ih74
    have hl : lv_has ls 8 [(5, .int (nI b3)), (3, .long (mvL f (mvB f h 2) b3)), (0, .ref fe), (1, .long h)] := hl
    replace hI : b3 ≤ 2 := hI
    refine tS (st' := []) rfl ?_
    refine lv_iload hx hb dX5_mixVehicles_74 (lv_at hl 0 rfl) ?_
    refine lv_iconst (v := nI 2) hx hb dX5_mixVehicles_76 (by decide +kernel) ?_
    refine icmp_geN (tgt := 153) hx hb (by omega) (by omega) dX5_mixVehicles_77 (by decide) (fun c77 => ?_) (fun c77 => ?_)
    · skip
      have e2 : b3 = 2 := by omega
      rw [e2] at hl
      have hl : lv_has ls 8 [(5, .int (nI 2)), (3, .long (mvL f (mvB f h 2) 2)), (0, .ref fe), (1, .long h)] := hl
      refine lv_lload_n hx hb dX5_mixVehicles_153 rfl (lv_at hl 1 rfl) ?_
      refine tS (st' := [.long (mvV f h)]) (congrArg (fun z => [Value.long z]) (rfl)) ?_
      exact W.lret hx hb hr (fun t ht hW => ⟨rfl, ht⟩) (fun _ h => nomatch h) dX5_mixVehicles_154
    · skip
      rcases (show b3 = 0 ∨ b3 = 1 by omega) with rfl | rfl
      · skip
        have hl : lv_has ls 8 [(5, .int (nI 0)), (3, .long (mvL f (mvB f h 2) 0)), (0, .ref fe), (1, .long h)] := hl
        refine lv_aload_n hx hb dX5_mixVehicles_80 rfl (lv_at hl 2 rfl) ?_
        refine va_get (D := G.1) (ci := 5) (v := .ref (an 0)) (C := RX5) (T := TX5) (N := 6) hx hb hts w_0 hown hE.1 hP 0 rfl rfl 0 (by decide) w_1 (fun _ h9 => h9) rfl dX5_mixVehicles_81 ?_
        refine lv_iload hx hb dX5_mixVehicles_84 (lv_at hl 0 rfl) ?_
        replace hP : va_P G.1 vwCl (cST G an f v0 v1 w ++ ([(fe, .inr (5, [.ref (an 0), .ref ta, .ref sa, .ref ha, .ref oa, .int hsn]))] ++ ([]))) s.heap := P_perm br1 hP
        refine pcall (st1 := [.ref (an 9)]) (va_runV (As := [.int (nI 0)]) (rest := []) ⟨hx, hb, hml, hown, hts⟩ (c_X3_lineOnLane_0 l G (an 0) (an 1) (an 2) (an 3) (an 6) (an 9) (an 12) (an 15) (f 50) (f 51) (f 52) (f 53) (f 54) (f 55) (f 56)) (cwV 1 hts gX5_mixVehicles_X3_lineOnLane rfl rfl rfl (by decide +kernel) ⟨Nat.le_of_ble_eq_true rfl, Nat.le_of_ble_eq_true rfl⟩) (PC.preV hE (va_recv hE.1 hP (ci := 3) (q0 := 0) rfl rfl) (hP.sub [0] rfl)) rfl rfl hl.1 rfl (lv_room (Nat.le_of_ble_eq_true rfl)) dX5_mixVehicles_86 ⟨Nat.zero_le _, Nat.zero_le _⟩) rfl ?_
        refine lv_astore (lv' := [(6, .ref (an 9)), (5, .int (nI 0)), (3, .long (mvL f (mvB f h 2) 0)), (0, .ref fe), (1, .long h)]) hx hb dX5_mixVehicles_89 hl (by decide) rfl (fun ls hl => ?_)
        refine lv_lload_n hx hb dX5_mixVehicles_91 rfl (lv_at hl 2 rfl) ?_
        refine lv_aload hx hb dX5_mixVehicles_92 (lv_at hl 0 rfl) ?_
        refine pcall (st1 := [.int (nI (nn f 79)), .long (mvL f (mvB f h 2) 0)]) (va_runV (As := []) (rest := [.long (mvL f (mvB f h 2) 0)]) ⟨hx, hb, hml, hown, hts⟩ (c_X1_size l G (an 9) (an 10) (an 11) (nn f 79) (fLw f 0)) (cwV 0 hts gX5_mixVehicles_X1_size rfl rfl rfl (by decide +kernel) ⟨Nat.le_of_ble_eq_true rfl, Nat.le_of_ble_eq_true rfl⟩) (PC.preV hE (va_recv hE.1 hP (ci := 1) (q0 := 9) rfl rfl) (hP.sub [9] rfl)) rfl rfl hl.1 rfl (lv_room (Nat.le_of_ble_eq_true rfl)) dX5_mixVehicles_94 ⟨Nat.zero_le _, Nat.zero_le _⟩) rfl ?_
        refine lv_i2l (v := (nI (nn f 79)).toInt64) hx hb dX5_mixVehicles_97 rfl ?_
        refine pcall (st1 := [.long (31 * (mvL f (mvB f h 2) 0) + ((nI (nn f 79)).toInt64))]) (va_runS (As := [.long (mvL f (mvB f h 2) 0), .long ((nI (nn f 79)).toInt64)]) (rest := []) ⟨hx, hb, hml, hown, hts⟩ (c_X5_mix l G (mvL f (mvB f h 2) 0) ((nI (nn f 79)).toInt64)) (va_cwS 2 hts gX5_mixVehicles_X5_mix rfl rfl rfl (by decide +kernel) ⟨Nat.le_of_ble_eq_true rfl, Nat.le_of_ble_eq_true rfl⟩) (PC.preS hE P_nil) rfl rfl hl.1 rfl (lv_room (Nat.le_of_ble_eq_true rfl)) dX5_mixVehicles_98 ⟨Nat.zero_le _, Nat.zero_le _⟩) rfl ?_
        refine tS (st' := [.long (31 * mvL f (mvB f h 2) 0 + (f (79 + (9 * 0))).toInt64)]) (congrArg (fun z => Value.long z :: []) (by rw [show f (79 + (9 * 0)) = nI (nn f 79) from (hs.1 0 (by omega)).1])) ?_
        refine lv_lstore_n (lv' := [(3, .long (31 * mvL f (mvB f h 2) 0 + (f (79 + (9 * 0))).toInt64)), (6, .ref (an 9)), (5, .int (nI 0)), (0, .ref fe), (1, .long h)]) hx hb dX5_mixVehicles_101 rfl hl (by decide) rfl (fun ls hl => ?_)
        refine lv_iconst (v := nI 0) hx hb dX5_mixVehicles_102 (by decide +kernel) ?_
        refine lv_istore (lv' := [(7, .int (nI 0)), (3, .long (31 * mvL f (mvB f h 2) 0 + (f (79 + (9 * 0))).toInt64)), (6, .ref (an 9)), (5, .int (nI 0)), (0, .ref fe), (1, .long h)]) hx hb dX5_mixVehicles_103 hl (by decide) rfl (fun ls hl => ?_)
        refine loopL (σ := Nat) (n := 8) (pc1 := 105) (fun j => nn f 79 - j) (fun j => j ≤ nn f 79) (fun j => [(7, .int (nI j)), (3, .long (mxL (fun k => (f (79 + 9 * 0 + 1 + 2 * (k / 2) + k % 2)).toInt64) (31 * mvL f (mvB f h 2) 0 + (f (79 + (9 * 0))).toInt64) (2 * j))), (6, .ref (an 9)), (5, .int (nI 0)), (0, .ref fe), (1, .long h)]) (fun j => []) ?_ (0) _ (Nat.zero_le _) (lv_sub hl [0, 1, 2, 3, 4, 5] rfl)
        rintro j ls hI hl ih105
        have hl : lv_has ls 8 [(7, .int (nI j)), (3, .long (mxL (fun k => (f (79 + 9 * 0 + 1 + 2 * (k / 2) + k % 2)).toInt64) (31 * mvL f (mvB f h 2) 0 + (f (79 + (9 * 0))).toInt64) (2 * j))), (6, .ref (an 9)), (5, .int (nI 0)), (0, .ref fe), (1, .long h)] := hl
        replace hI : j ≤ nn f 79 := hI
        refine tS (st' := []) rfl ?_
        refine lv_iload hx hb dX5_mixVehicles_105 (lv_at hl 0 rfl) ?_
        refine lv_aload hx hb dX5_mixVehicles_107 (lv_at hl 2 rfl) ?_
        refine pcall (st1 := [.int (nI (nn f 79)), .int (nI j)]) (va_runV (As := []) (rest := [.int (nI j)]) ⟨hx, hb, hml, hown, hts⟩ (c_X1_size l G (an 9) (an 10) (an 11) (nn f 79) (fLw f 0)) (cwV 0 hts gX5_mixVehicles_X1_size rfl rfl rfl (by decide +kernel) ⟨Nat.le_of_ble_eq_true rfl, Nat.le_of_ble_eq_true rfl⟩) (PC.preV hE (va_recv hE.1 hP (ci := 1) (q0 := 9) rfl rfl) (hP.sub [9] rfl)) rfl rfl hl.1 rfl (lv_room (Nat.le_of_ble_eq_true rfl)) dX5_mixVehicles_109 ⟨Nat.zero_le _, Nat.zero_le _⟩) rfl ?_
        refine icmp_geN (tgt := 147) hx hb (by omega) (by omega) dX5_mixVehicles_112 (by decide) (fun c112 => ?_) (fun c112 => ?_)
        · skip
          have e9 : j = nn f (79 + (9 * 0)) := by show j = nn f 79; omega
          rw [e9] at hl
          have hl : lv_has ls 8 [(7, .int (nI (nn f (79 + (9 * 0))))), (3, .long (mvL f (mvB f h 2) (0 + 1))), (6, .ref (an 9)), (5, .int (nI 0)), (0, .ref fe), (1, .long h)] := hl
          refine lv_iinc (v := nI (0 + 1)) (lv' := [(5, .int (nI (0 + 1))), (7, .int (nI (nn f (79 + (9 * 0))))), (3, .long (mvL f (mvB f h 2) (0 + 1))), (6, .ref (an 9)), (0, .ref fe), (1, .long h)]) hx hb dX5_mixVehicles_147 hl (k := 3) rfl (nI_inc1 _) (by decide) rfl (fun ls hl => ?_)
          refine lv_goto (tgt := 74) hx hb dX5_mixVehicles_150 (by decide) ?_
          exact ih74 (0 + 1) _ (by omega) (lv_sub hl [0, 2, 4, 5] rfl) (by (try dsimp only); omega)
        · skip
          have hjj : j < _ := c112
          refine lv_lload_n hx hb dX5_mixVehicles_115 rfl (lv_at hl 1 rfl) ?_
          refine lv_aload hx hb dX5_mixVehicles_116 (lv_at hl 2 rfl) ?_
          refine lv_iload hx hb dX5_mixVehicles_118 (lv_at hl 0 rfl) ?_
          refine pcall (st1 := [.int ((w 4) j), .long (mxL (fun k => (f (79 + 9 * 0 + 1 + 2 * (k / 2) + k % 2)).toInt64) (31 * mvL f (mvB f h 2) 0 + (f (79 + (9 * 0))).toInt64) (2 * j))]) (va_runV (As := [.int (nI j)]) (rest := [.long (mxL (fun k => (f (79 + 9 * 0 + 1 + 2 * (k / 2) + k % 2)).toInt64) (31 * mvL f (mvB f h 2) 0 + (f (79 + (9 * 0))).toInt64) (2 * j))]) ⟨hx, hb, hml, hown, hts⟩ (c_X1_weightOf l G (an 9) (an 10) (an 11) 4 (nn f 79) (fLw f 0) (w 4) (w 5) (by omega) (by omega) j hjj) (cwV 1 hts gX5_mixVehicles_X1_weightOf rfl rfl rfl (by decide +kernel) ⟨Nat.le_of_ble_eq_true rfl, Nat.le_of_ble_eq_true rfl⟩) (PC.preV hE (va_recv hE.1 hP (ci := 1) (q0 := 9) rfl rfl) (hP.sub [9, 10, 11] rfl)) rfl rfl hl.1 rfl (lv_room (Nat.le_of_ble_eq_true rfl)) dX5_mixVehicles_120 ⟨Nat.zero_le _, Nat.zero_le _⟩) rfl ?_
          refine tI (y := f (79 + 9 * 0 + 1 + 2 * j)) ((hcp.2.2.1 j hjj).1.trans (congrArg f (by omega))) ?_
          refine lv_i2l (v := (f (79 + 9 * 0 + 1 + 2 * j)).toInt64) hx hb dX5_mixVehicles_123 rfl ?_
          refine pcall (st1 := [.long (31 * (mxL (fun k => (f (79 + 9 * 0 + 1 + 2 * (k / 2) + k % 2)).toInt64) (31 * mvL f (mvB f h 2) 0 + (f (79 + (9 * 0))).toInt64) (2 * j)) + ((f (79 + 9 * 0 + 1 + 2 * j)).toInt64))]) (va_runS (As := [.long (mxL (fun k => (f (79 + 9 * 0 + 1 + 2 * (k / 2) + k % 2)).toInt64) (31 * mvL f (mvB f h 2) 0 + (f (79 + (9 * 0))).toInt64) (2 * j)), .long ((f (79 + 9 * 0 + 1 + 2 * j)).toInt64)]) (rest := []) ⟨hx, hb, hml, hown, hts⟩ (c_X5_mix l G (mxL (fun k => (f (79 + 9 * 0 + 1 + 2 * (k / 2) + k % 2)).toInt64) (31 * mvL f (mvB f h 2) 0 + (f (79 + (9 * 0))).toInt64) (2 * j)) ((f (79 + 9 * 0 + 1 + 2 * j)).toInt64)) (va_cwS 2 hts gX5_mixVehicles_X5_mix rfl rfl rfl (by decide +kernel) ⟨Nat.le_of_ble_eq_true rfl, Nat.le_of_ble_eq_true rfl⟩) (PC.preS hE P_nil) rfl rfl hl.1 rfl (lv_room (Nat.le_of_ble_eq_true rfl)) dX5_mixVehicles_124 ⟨Nat.zero_le _, Nat.zero_le _⟩) rfl ?_
          refine lv_lstore_n (lv' := [(3, .long (31 * (mxL (fun k => (f (79 + 9 * 0 + 1 + 2 * (k / 2) + k % 2)).toInt64) (31 * mvL f (mvB f h 2) 0 + (f (79 + (9 * 0))).toInt64) (2 * j)) + ((f (79 + 9 * 0 + 1 + 2 * j)).toInt64))), (7, .int (nI j)), (6, .ref (an 9)), (5, .int (nI 0)), (0, .ref fe), (1, .long h)]) hx hb dX5_mixVehicles_127 rfl hl (by decide) rfl (fun ls hl => ?_)
          refine lv_lload_n hx hb dX5_mixVehicles_128 rfl (lv_at hl 0 rfl) ?_
          refine lv_aload hx hb dX5_mixVehicles_129 (lv_at hl 2 rfl) ?_
          refine lv_iload hx hb dX5_mixVehicles_131 (lv_at hl 1 rfl) ?_
          refine pcall (st1 := [.int ((w 5) j), .long (31 * (mxL (fun k => (f (79 + 9 * 0 + 1 + 2 * (k / 2) + k % 2)).toInt64) (31 * mvL f (mvB f h 2) 0 + (f (79 + (9 * 0))).toInt64) (2 * j)) + ((f (79 + 9 * 0 + 1 + 2 * j)).toInt64))]) (va_runV (As := [.int (nI j)]) (rest := [.long (31 * (mxL (fun k => (f (79 + 9 * 0 + 1 + 2 * (k / 2) + k % 2)).toInt64) (31 * mvL f (mvB f h 2) 0 + (f (79 + (9 * 0))).toInt64) (2 * j)) + ((f (79 + 9 * 0 + 1 + 2 * j)).toInt64))]) ⟨hx, hb, hml, hown, hts⟩ (c_X1_bankOf l G (an 9) (an 10) (an 11) 4 (nn f 79) (fLw f 0) (w 4) (w 5) (by omega) (by omega) j hjj) (cwV 1 hts gX5_mixVehicles_X1_bankOf rfl rfl rfl (by decide +kernel) ⟨Nat.le_of_ble_eq_true rfl, Nat.le_of_ble_eq_true rfl⟩) (PC.preV hE (va_recv hE.1 hP (ci := 1) (q0 := 9) rfl rfl) (hP.sub [9, 10, 11] rfl)) rfl rfl hl.1 rfl (lv_room (Nat.le_of_ble_eq_true rfl)) dX5_mixVehicles_133 ⟨Nat.zero_le _, Nat.zero_le _⟩) rfl ?_
          refine tI (y := f (79 + 9 * 0 + 2 + 2 * j)) ((hcp.2.2.1 j hjj).2.trans (congrArg f (by omega))) ?_
          refine lv_i2l (v := (f (79 + 9 * 0 + 2 + 2 * j)).toInt64) hx hb dX5_mixVehicles_136 rfl ?_
          refine pcall (st1 := [.long (31 * (31 * (mxL (fun k => (f (79 + 9 * 0 + 1 + 2 * (k / 2) + k % 2)).toInt64) (31 * mvL f (mvB f h 2) 0 + (f (79 + (9 * 0))).toInt64) (2 * j)) + ((f (79 + 9 * 0 + 1 + 2 * j)).toInt64)) + ((f (79 + 9 * 0 + 2 + 2 * j)).toInt64))]) (va_runS (As := [.long (31 * (mxL (fun k => (f (79 + 9 * 0 + 1 + 2 * (k / 2) + k % 2)).toInt64) (31 * mvL f (mvB f h 2) 0 + (f (79 + (9 * 0))).toInt64) (2 * j)) + ((f (79 + 9 * 0 + 1 + 2 * j)).toInt64)), .long ((f (79 + 9 * 0 + 2 + 2 * j)).toInt64)]) (rest := []) ⟨hx, hb, hml, hown, hts⟩ (c_X5_mix l G (31 * (mxL (fun k => (f (79 + 9 * 0 + 1 + 2 * (k / 2) + k % 2)).toInt64) (31 * mvL f (mvB f h 2) 0 + (f (79 + (9 * 0))).toInt64) (2 * j)) + ((f (79 + 9 * 0 + 1 + 2 * j)).toInt64)) ((f (79 + 9 * 0 + 2 + 2 * j)).toInt64)) (va_cwS 2 hts gX5_mixVehicles_X5_mix rfl rfl rfl (by decide +kernel) ⟨Nat.le_of_ble_eq_true rfl, Nat.le_of_ble_eq_true rfl⟩) (PC.preS hE P_nil) rfl rfl hl.1 rfl (lv_room (Nat.le_of_ble_eq_true rfl)) dX5_mixVehicles_137 ⟨Nat.zero_le _, Nat.zero_le _⟩) rfl ?_
          refine tS (st' := [.long (mxL (fun k => (f (79 + 9 * 0 + 1 + 2 * (k / 2) + k % 2)).toInt64) (31 * mvL f (mvB f h 2) 0 + (f (79 + (9 * 0))).toInt64) (2 * (j + 1)))]) (congrArg (fun z => Value.long z :: []) (mx_dk (b := 0))) ?_
          refine lv_lstore_n (lv' := [(3, .long (mxL (fun k => (f (79 + 9 * 0 + 1 + 2 * (k / 2) + k % 2)).toInt64) (31 * mvL f (mvB f h 2) 0 + (f (79 + (9 * 0))).toInt64) (2 * (j + 1)))), (7, .int (nI j)), (6, .ref (an 9)), (5, .int (nI 0)), (0, .ref fe), (1, .long h)]) hx hb dX5_mixVehicles_140 rfl hl (by decide) rfl (fun ls hl => ?_)
          refine lv_iinc (v := nI (j + 1)) (lv' := [(7, .int (nI (j + 1))), (3, .long (mxL (fun k => (f (79 + 9 * 0 + 1 + 2 * (k / 2) + k % 2)).toInt64) (31 * mvL f (mvB f h 2) 0 + (f (79 + (9 * 0))).toInt64) (2 * (j + 1)))), (6, .ref (an 9)), (5, .int (nI 0)), (0, .ref fe), (1, .long h)]) hx hb dX5_mixVehicles_141 hl (k := 1) rfl (nI_inc1 _) (by decide) rfl (fun ls hl => ?_)
          refine lv_goto (tgt := 105) hx hb dX5_mixVehicles_144 (by decide) ?_
          exact ih105 (j + 1) _ (by omega) (lv_sub hl [0, 1, 2, 3, 4, 5] rfl) (by (try dsimp only); omega)
      · skip
        have hl : lv_has ls 8 [(5, .int (nI 1)), (3, .long (mvL f (mvB f h 2) 1)), (0, .ref fe), (1, .long h)] := hl
        refine lv_aload_n hx hb dX5_mixVehicles_80 rfl (lv_at hl 2 rfl) ?_
        refine va_get (D := G.1) (ci := 5) (v := .ref (an 0)) (C := RX5) (T := TX5) (N := 6) hx hb hts w_0 hown hE.1 hP 0 rfl rfl 0 (by decide) w_1 (fun _ h9 => h9) rfl dX5_mixVehicles_81 ?_
        refine lv_iload hx hb dX5_mixVehicles_84 (lv_at hl 0 rfl) ?_
        replace hP : va_P G.1 vwCl (cST G an f v0 v1 w ++ ([(fe, .inr (5, [.ref (an 0), .ref ta, .ref sa, .ref ha, .ref oa, .int hsn]))] ++ ([]))) s.heap := P_perm br1 hP
        refine pcall (st1 := [.ref (an 12)]) (va_runV (As := [.int (nI 1)]) (rest := []) ⟨hx, hb, hml, hown, hts⟩ (c_X3_lineOnLane_1 l G (an 0) (an 1) (an 2) (an 3) (an 6) (an 9) (an 12) (an 15) (f 50) (f 51) (f 52) (f 53) (f 54) (f 55) (f 56)) (cwV 1 hts gX5_mixVehicles_X3_lineOnLane rfl rfl rfl (by decide +kernel) ⟨Nat.le_of_ble_eq_true rfl, Nat.le_of_ble_eq_true rfl⟩) (PC.preV hE (va_recv hE.1 hP (ci := 3) (q0 := 0) rfl rfl) (hP.sub [0] rfl)) rfl rfl hl.1 rfl (lv_room (Nat.le_of_ble_eq_true rfl)) dX5_mixVehicles_86 ⟨Nat.zero_le _, Nat.zero_le _⟩) rfl ?_
        refine lv_astore (lv' := [(6, .ref (an 12)), (5, .int (nI 1)), (3, .long (mvL f (mvB f h 2) 1)), (0, .ref fe), (1, .long h)]) hx hb dX5_mixVehicles_89 hl (by decide) rfl (fun ls hl => ?_)
        refine lv_lload_n hx hb dX5_mixVehicles_91 rfl (lv_at hl 2 rfl) ?_
        refine lv_aload hx hb dX5_mixVehicles_92 (lv_at hl 0 rfl) ?_
        refine pcall (st1 := [.int (nI (nn f 88)), .long (mvL f (mvB f h 2) 1)]) (va_runV (As := []) (rest := [.long (mvL f (mvB f h 2) 1)]) ⟨hx, hb, hml, hown, hts⟩ (c_X1_size l G (an 12) (an 13) (an 14) (nn f 88) (fLw f 1)) (cwV 0 hts gX5_mixVehicles_X1_size rfl rfl rfl (by decide +kernel) ⟨Nat.le_of_ble_eq_true rfl, Nat.le_of_ble_eq_true rfl⟩) (PC.preV hE (va_recv hE.1 hP (ci := 1) (q0 := 12) rfl rfl) (hP.sub [12] rfl)) rfl rfl hl.1 rfl (lv_room (Nat.le_of_ble_eq_true rfl)) dX5_mixVehicles_94 ⟨Nat.zero_le _, Nat.zero_le _⟩) rfl ?_
        refine lv_i2l (v := (nI (nn f 88)).toInt64) hx hb dX5_mixVehicles_97 rfl ?_
        refine pcall (st1 := [.long (31 * (mvL f (mvB f h 2) 1) + ((nI (nn f 88)).toInt64))]) (va_runS (As := [.long (mvL f (mvB f h 2) 1), .long ((nI (nn f 88)).toInt64)]) (rest := []) ⟨hx, hb, hml, hown, hts⟩ (c_X5_mix l G (mvL f (mvB f h 2) 1) ((nI (nn f 88)).toInt64)) (va_cwS 2 hts gX5_mixVehicles_X5_mix rfl rfl rfl (by decide +kernel) ⟨Nat.le_of_ble_eq_true rfl, Nat.le_of_ble_eq_true rfl⟩) (PC.preS hE P_nil) rfl rfl hl.1 rfl (lv_room (Nat.le_of_ble_eq_true rfl)) dX5_mixVehicles_98 ⟨Nat.zero_le _, Nat.zero_le _⟩) rfl ?_
        refine tS (st' := [.long (31 * mvL f (mvB f h 2) 1 + (f (79 + (9 * 1))).toInt64)]) (congrArg (fun z => Value.long z :: []) (by rw [show f (79 + (9 * 1)) = nI (nn f 88) from (hs.1 1 (by omega)).1])) ?_
        refine lv_lstore_n (lv' := [(3, .long (31 * mvL f (mvB f h 2) 1 + (f (79 + (9 * 1))).toInt64)), (6, .ref (an 12)), (5, .int (nI 1)), (0, .ref fe), (1, .long h)]) hx hb dX5_mixVehicles_101 rfl hl (by decide) rfl (fun ls hl => ?_)
        refine lv_iconst (v := nI 0) hx hb dX5_mixVehicles_102 (by decide +kernel) ?_
        refine lv_istore (lv' := [(7, .int (nI 0)), (3, .long (31 * mvL f (mvB f h 2) 1 + (f (79 + (9 * 1))).toInt64)), (6, .ref (an 12)), (5, .int (nI 1)), (0, .ref fe), (1, .long h)]) hx hb dX5_mixVehicles_103 hl (by decide) rfl (fun ls hl => ?_)
        refine loopL (σ := Nat) (n := 8) (pc1 := 105) (fun j => nn f 88 - j) (fun j => j ≤ nn f 88) (fun j => [(7, .int (nI j)), (3, .long (mxL (fun k => (f (79 + 9 * 1 + 1 + 2 * (k / 2) + k % 2)).toInt64) (31 * mvL f (mvB f h 2) 1 + (f (79 + (9 * 1))).toInt64) (2 * j))), (6, .ref (an 12)), (5, .int (nI 1)), (0, .ref fe), (1, .long h)]) (fun j => []) ?_ (0) _ (Nat.zero_le _) (lv_sub hl [0, 1, 2, 3, 4, 5] rfl)
        rintro j ls hI hl ih105
        have hl : lv_has ls 8 [(7, .int (nI j)), (3, .long (mxL (fun k => (f (79 + 9 * 1 + 1 + 2 * (k / 2) + k % 2)).toInt64) (31 * mvL f (mvB f h 2) 1 + (f (79 + (9 * 1))).toInt64) (2 * j))), (6, .ref (an 12)), (5, .int (nI 1)), (0, .ref fe), (1, .long h)] := hl
        replace hI : j ≤ nn f 88 := hI
        refine tS (st' := []) rfl ?_
        refine lv_iload hx hb dX5_mixVehicles_105 (lv_at hl 0 rfl) ?_
        refine lv_aload hx hb dX5_mixVehicles_107 (lv_at hl 2 rfl) ?_
        refine pcall (st1 := [.int (nI (nn f 88)), .int (nI j)]) (va_runV (As := []) (rest := [.int (nI j)]) ⟨hx, hb, hml, hown, hts⟩ (c_X1_size l G (an 12) (an 13) (an 14) (nn f 88) (fLw f 1)) (cwV 0 hts gX5_mixVehicles_X1_size rfl rfl rfl (by decide +kernel) ⟨Nat.le_of_ble_eq_true rfl, Nat.le_of_ble_eq_true rfl⟩) (PC.preV hE (va_recv hE.1 hP (ci := 1) (q0 := 12) rfl rfl) (hP.sub [12] rfl)) rfl rfl hl.1 rfl (lv_room (Nat.le_of_ble_eq_true rfl)) dX5_mixVehicles_109 ⟨Nat.zero_le _, Nat.zero_le _⟩) rfl ?_
        refine icmp_geN (tgt := 147) hx hb (by omega) (by omega) dX5_mixVehicles_112 (by decide) (fun c112 => ?_) (fun c112 => ?_)
        · skip
          have e9 : j = nn f (79 + (9 * 1)) := by show j = nn f 88; omega
          rw [e9] at hl
          have hl : lv_has ls 8 [(7, .int (nI (nn f (79 + (9 * 1))))), (3, .long (mvL f (mvB f h 2) (1 + 1))), (6, .ref (an 12)), (5, .int (nI 1)), (0, .ref fe), (1, .long h)] := hl
          refine lv_iinc (v := nI (1 + 1)) (lv' := [(5, .int (nI (1 + 1))), (7, .int (nI (nn f (79 + (9 * 1))))), (3, .long (mvL f (mvB f h 2) (1 + 1))), (6, .ref (an 12)), (0, .ref fe), (1, .long h)]) hx hb dX5_mixVehicles_147 hl (k := 3) rfl (nI_inc1 _) (by decide) rfl (fun ls hl => ?_)
          refine lv_goto (tgt := 74) hx hb dX5_mixVehicles_150 (by decide) ?_
          exact ih74 (1 + 1) _ (by omega) (lv_sub hl [0, 2, 4, 5] rfl) (by (try dsimp only); omega)
        · skip
          have hjj : j < _ := c112
          refine lv_lload_n hx hb dX5_mixVehicles_115 rfl (lv_at hl 1 rfl) ?_
          refine lv_aload hx hb dX5_mixVehicles_116 (lv_at hl 2 rfl) ?_
          refine lv_iload hx hb dX5_mixVehicles_118 (lv_at hl 0 rfl) ?_
          refine pcall (st1 := [.int ((w 6) j), .long (mxL (fun k => (f (79 + 9 * 1 + 1 + 2 * (k / 2) + k % 2)).toInt64) (31 * mvL f (mvB f h 2) 1 + (f (79 + (9 * 1))).toInt64) (2 * j))]) (va_runV (As := [.int (nI j)]) (rest := [.long (mxL (fun k => (f (79 + 9 * 1 + 1 + 2 * (k / 2) + k % 2)).toInt64) (31 * mvL f (mvB f h 2) 1 + (f (79 + (9 * 1))).toInt64) (2 * j))]) ⟨hx, hb, hml, hown, hts⟩ (c_X1_weightOf l G (an 12) (an 13) (an 14) 4 (nn f 88) (fLw f 1) (w 6) (w 7) (by omega) (by omega) j hjj) (cwV 1 hts gX5_mixVehicles_X1_weightOf rfl rfl rfl (by decide +kernel) ⟨Nat.le_of_ble_eq_true rfl, Nat.le_of_ble_eq_true rfl⟩) (PC.preV hE (va_recv hE.1 hP (ci := 1) (q0 := 12) rfl rfl) (hP.sub [12, 13, 14] rfl)) rfl rfl hl.1 rfl (lv_room (Nat.le_of_ble_eq_true rfl)) dX5_mixVehicles_120 ⟨Nat.zero_le _, Nat.zero_le _⟩) rfl ?_
          refine tI (y := f (79 + 9 * 1 + 1 + 2 * j)) ((hcp.2.2.2 j hjj).1.trans (congrArg f (by omega))) ?_
          refine lv_i2l (v := (f (79 + 9 * 1 + 1 + 2 * j)).toInt64) hx hb dX5_mixVehicles_123 rfl ?_
          refine pcall (st1 := [.long (31 * (mxL (fun k => (f (79 + 9 * 1 + 1 + 2 * (k / 2) + k % 2)).toInt64) (31 * mvL f (mvB f h 2) 1 + (f (79 + (9 * 1))).toInt64) (2 * j)) + ((f (79 + 9 * 1 + 1 + 2 * j)).toInt64))]) (va_runS (As := [.long (mxL (fun k => (f (79 + 9 * 1 + 1 + 2 * (k / 2) + k % 2)).toInt64) (31 * mvL f (mvB f h 2) 1 + (f (79 + (9 * 1))).toInt64) (2 * j)), .long ((f (79 + 9 * 1 + 1 + 2 * j)).toInt64)]) (rest := []) ⟨hx, hb, hml, hown, hts⟩ (c_X5_mix l G (mxL (fun k => (f (79 + 9 * 1 + 1 + 2 * (k / 2) + k % 2)).toInt64) (31 * mvL f (mvB f h 2) 1 + (f (79 + (9 * 1))).toInt64) (2 * j)) ((f (79 + 9 * 1 + 1 + 2 * j)).toInt64)) (va_cwS 2 hts gX5_mixVehicles_X5_mix rfl rfl rfl (by decide +kernel) ⟨Nat.le_of_ble_eq_true rfl, Nat.le_of_ble_eq_true rfl⟩) (PC.preS hE P_nil) rfl rfl hl.1 rfl (lv_room (Nat.le_of_ble_eq_true rfl)) dX5_mixVehicles_124 ⟨Nat.zero_le _, Nat.zero_le _⟩) rfl ?_
          refine lv_lstore_n (lv' := [(3, .long (31 * (mxL (fun k => (f (79 + 9 * 1 + 1 + 2 * (k / 2) + k % 2)).toInt64) (31 * mvL f (mvB f h 2) 1 + (f (79 + (9 * 1))).toInt64) (2 * j)) + ((f (79 + 9 * 1 + 1 + 2 * j)).toInt64))), (7, .int (nI j)), (6, .ref (an 12)), (5, .int (nI 1)), (0, .ref fe), (1, .long h)]) hx hb dX5_mixVehicles_127 rfl hl (by decide) rfl (fun ls hl => ?_)
          refine lv_lload_n hx hb dX5_mixVehicles_128 rfl (lv_at hl 0 rfl) ?_
          refine lv_aload hx hb dX5_mixVehicles_129 (lv_at hl 2 rfl) ?_
          refine lv_iload hx hb dX5_mixVehicles_131 (lv_at hl 1 rfl) ?_
          refine pcall (st1 := [.int ((w 7) j), .long (31 * (mxL (fun k => (f (79 + 9 * 1 + 1 + 2 * (k / 2) + k % 2)).toInt64) (31 * mvL f (mvB f h 2) 1 + (f (79 + (9 * 1))).toInt64) (2 * j)) + ((f (79 + 9 * 1 + 1 + 2 * j)).toInt64))]) (va_runV (As := [.int (nI j)]) (rest := [.long (31 * (mxL (fun k => (f (79 + 9 * 1 + 1 + 2 * (k / 2) + k % 2)).toInt64) (31 * mvL f (mvB f h 2) 1 + (f (79 + (9 * 1))).toInt64) (2 * j)) + ((f (79 + 9 * 1 + 1 + 2 * j)).toInt64))]) ⟨hx, hb, hml, hown, hts⟩ (c_X1_bankOf l G (an 12) (an 13) (an 14) 4 (nn f 88) (fLw f 1) (w 6) (w 7) (by omega) (by omega) j hjj) (cwV 1 hts gX5_mixVehicles_X1_bankOf rfl rfl rfl (by decide +kernel) ⟨Nat.le_of_ble_eq_true rfl, Nat.le_of_ble_eq_true rfl⟩) (PC.preV hE (va_recv hE.1 hP (ci := 1) (q0 := 12) rfl rfl) (hP.sub [12, 13, 14] rfl)) rfl rfl hl.1 rfl (lv_room (Nat.le_of_ble_eq_true rfl)) dX5_mixVehicles_133 ⟨Nat.zero_le _, Nat.zero_le _⟩) rfl ?_
          refine tI (y := f (79 + 9 * 1 + 2 + 2 * j)) ((hcp.2.2.2 j hjj).2.trans (congrArg f (by omega))) ?_
          refine lv_i2l (v := (f (79 + 9 * 1 + 2 + 2 * j)).toInt64) hx hb dX5_mixVehicles_136 rfl ?_
          refine pcall (st1 := [.long (31 * (31 * (mxL (fun k => (f (79 + 9 * 1 + 1 + 2 * (k / 2) + k % 2)).toInt64) (31 * mvL f (mvB f h 2) 1 + (f (79 + (9 * 1))).toInt64) (2 * j)) + ((f (79 + 9 * 1 + 1 + 2 * j)).toInt64)) + ((f (79 + 9 * 1 + 2 + 2 * j)).toInt64))]) (va_runS (As := [.long (31 * (mxL (fun k => (f (79 + 9 * 1 + 1 + 2 * (k / 2) + k % 2)).toInt64) (31 * mvL f (mvB f h 2) 1 + (f (79 + (9 * 1))).toInt64) (2 * j)) + ((f (79 + 9 * 1 + 1 + 2 * j)).toInt64)), .long ((f (79 + 9 * 1 + 2 + 2 * j)).toInt64)]) (rest := []) ⟨hx, hb, hml, hown, hts⟩ (c_X5_mix l G (31 * (mxL (fun k => (f (79 + 9 * 1 + 1 + 2 * (k / 2) + k % 2)).toInt64) (31 * mvL f (mvB f h 2) 1 + (f (79 + (9 * 1))).toInt64) (2 * j)) + ((f (79 + 9 * 1 + 1 + 2 * j)).toInt64)) ((f (79 + 9 * 1 + 2 + 2 * j)).toInt64)) (va_cwS 2 hts gX5_mixVehicles_X5_mix rfl rfl rfl (by decide +kernel) ⟨Nat.le_of_ble_eq_true rfl, Nat.le_of_ble_eq_true rfl⟩) (PC.preS hE P_nil) rfl rfl hl.1 rfl (lv_room (Nat.le_of_ble_eq_true rfl)) dX5_mixVehicles_137 ⟨Nat.zero_le _, Nat.zero_le _⟩) rfl ?_
          refine tS (st' := [.long (mxL (fun k => (f (79 + 9 * 1 + 1 + 2 * (k / 2) + k % 2)).toInt64) (31 * mvL f (mvB f h 2) 1 + (f (79 + (9 * 1))).toInt64) (2 * (j + 1)))]) (congrArg (fun z => Value.long z :: []) (mx_dk (b := 1))) ?_
          refine lv_lstore_n (lv' := [(3, .long (mxL (fun k => (f (79 + 9 * 1 + 1 + 2 * (k / 2) + k % 2)).toInt64) (31 * mvL f (mvB f h 2) 1 + (f (79 + (9 * 1))).toInt64) (2 * (j + 1)))), (7, .int (nI j)), (6, .ref (an 12)), (5, .int (nI 1)), (0, .ref fe), (1, .long h)]) hx hb dX5_mixVehicles_140 rfl hl (by decide) rfl (fun ls hl => ?_)
          refine lv_iinc (v := nI (j + 1)) (lv' := [(7, .int (nI (j + 1))), (3, .long (mxL (fun k => (f (79 + 9 * 1 + 1 + 2 * (k / 2) + k % 2)).toInt64) (31 * mvL f (mvB f h 2) 1 + (f (79 + (9 * 1))).toInt64) (2 * (j + 1)))), (6, .ref (an 12)), (5, .int (nI 1)), (0, .ref fe), (1, .long h)]) hx hb dX5_mixVehicles_141 hl (k := 1) rfl (nI_inc1 _) (by decide) rfl (fun ls hl => ?_)
          refine lv_goto (tgt := 105) hx hb dX5_mixVehicles_144 (by decide) ?_
          exact ih105 (j + 1) _ (by omega) (lv_sub hl [0, 1, 2, 3, 4, 5] rfl) (by (try dsimp only); omega)
  · skip
    rcases (show b = 0 ∨ b = 1 by omega) with rfl | rfl
    · skip
      have hl : lv_has ls 8 [(5, .int (nI 0)), (3, .long (mvB f h 0)), (0, .ref fe), (1, .long h)] := hl
      refine lv_aload_n hx hb dX5_mixVehicles_11 rfl (lv_at hl 2 rfl) ?_
      refine va_get (D := G.1) (ci := 5) (v := .ref (an 0)) (C := RX5) (T := TX5) (N := 6) hx hb hts w_0 hown hE.1 hP 0 rfl rfl 0 (by decide) w_1 (fun _ h9 => h9) rfl dX5_mixVehicles_12 ?_
      refine lv_iload hx hb dX5_mixVehicles_15 (lv_at hl 0 rfl) ?_
      replace hP : va_P G.1 vwCl (cST G an f v0 v1 w ++ ([(fe, .inr (5, [.ref (an 0), .ref ta, .ref sa, .ref ha, .ref oa, .int hsn]))] ++ ([]))) s.heap := P_perm br1 hP
      refine pcall (st1 := [.ref (an 3)]) (va_runV (As := [.int (nI 0)]) (rest := []) ⟨hx, hb, hml, hown, hts⟩ (c_X3_lineAtBank_0 l G (an 0) (an 1) (an 2) (an 3) (an 6) (an 9) (an 12) (an 15) (f 50) (f 51) (f 52) (f 53) (f 54) (f 55) (f 56)) (cwV 1 hts gX5_mixVehicles_X3_lineAtBank rfl rfl rfl (by decide +kernel) ⟨Nat.le_of_ble_eq_true rfl, Nat.le_of_ble_eq_true rfl⟩) (PC.preV hE (va_recv hE.1 hP (ci := 3) (q0 := 0) rfl rfl) (hP.sub [0] rfl)) rfl rfl hl.1 rfl (lv_room (Nat.le_of_ble_eq_true rfl)) dX5_mixVehicles_17 ⟨Nat.zero_le _, Nat.zero_le _⟩) rfl ?_
      refine lv_astore (lv' := [(6, .ref (an 3)), (5, .int (nI 0)), (3, .long (mvB f h 0)), (0, .ref fe), (1, .long h)]) hx hb dX5_mixVehicles_20 hl (by decide) rfl (fun ls hl => ?_)
      refine lv_lload_n hx hb dX5_mixVehicles_22 rfl (lv_at hl 2 rfl) ?_
      refine lv_aload hx hb dX5_mixVehicles_23 (lv_at hl 0 rfl) ?_
      refine pcall (st1 := [.int (nI (nn f 57)), .long (mvB f h 0)]) (va_runV (As := []) (rest := [.long (mvB f h 0)]) ⟨hx, hb, hml, hown, hts⟩ (c_X1_size l G (an 3) (an 4) (an 5) (nn f 57) v0) (cwV 0 hts gX5_mixVehicles_X1_size rfl rfl rfl (by decide +kernel) ⟨Nat.le_of_ble_eq_true rfl, Nat.le_of_ble_eq_true rfl⟩) (PC.preV hE (va_recv hE.1 hP (ci := 1) (q0 := 3) rfl rfl) (hP.sub [3] rfl)) rfl rfl hl.1 rfl (lv_room (Nat.le_of_ble_eq_true rfl)) dX5_mixVehicles_25 ⟨Nat.zero_le _, Nat.zero_le _⟩) rfl ?_
      refine lv_i2l (v := (nI (nn f 57)).toInt64) hx hb dX5_mixVehicles_28 rfl ?_
      refine pcall (st1 := [.long (31 * (mvB f h 0) + ((nI (nn f 57)).toInt64))]) (va_runS (As := [.long (mvB f h 0), .long ((nI (nn f 57)).toInt64)]) (rest := []) ⟨hx, hb, hml, hown, hts⟩ (c_X5_mix l G (mvB f h 0) ((nI (nn f 57)).toInt64)) (va_cwS 2 hts gX5_mixVehicles_X5_mix rfl rfl rfl (by decide +kernel) ⟨Nat.le_of_ble_eq_true rfl, Nat.le_of_ble_eq_true rfl⟩) (PC.preS hE P_nil) rfl rfl hl.1 rfl (lv_room (Nat.le_of_ble_eq_true rfl)) dX5_mixVehicles_29 ⟨Nat.zero_le _, Nat.zero_le _⟩) rfl ?_
      refine tS (st' := [.long (31 * mvB f h 0 + (f (57 + (11 * 0))).toInt64)]) (congrArg (fun z => Value.long z :: []) (by rw [show f (57 + (11 * 0)) = nI (nn f 57) from (hs.2.1 0 (by omega)).1])) ?_
      refine lv_lstore_n (lv' := [(3, .long (31 * mvB f h 0 + (f (57 + (11 * 0))).toInt64)), (6, .ref (an 3)), (5, .int (nI 0)), (0, .ref fe), (1, .long h)]) hx hb dX5_mixVehicles_32 rfl hl (by decide) rfl (fun ls hl => ?_)
      refine lv_iconst (v := nI 0) hx hb dX5_mixVehicles_33 (by decide +kernel) ?_
      refine lv_istore (lv' := [(7, .int (nI 0)), (3, .long (31 * mvB f h 0 + (f (57 + (11 * 0))).toInt64)), (6, .ref (an 3)), (5, .int (nI 0)), (0, .ref fe), (1, .long h)]) hx hb dX5_mixVehicles_34 hl (by decide) rfl (fun ls hl => ?_)
      refine loopL (σ := Nat) (n := 8) (pc1 := 36) (fun j => nn f 57 - j) (fun j => j ≤ nn f 57) (fun j => [(7, .int (nI j)), (3, .long (mxL (fun j => (f (57 + 11 * 0 + 1 + j)).toInt64) (31 * mvB f h 0 + (f (57 + (11 * 0))).toInt64) j)), (6, .ref (an 3)), (5, .int (nI 0)), (0, .ref fe), (1, .long h)]) (fun j => []) ?_ (0) _ (Nat.zero_le _) (lv_sub hl [0, 1, 2, 3, 4, 5] rfl)
      rintro j ls hI hl ih36
      have hl : lv_has ls 8 [(7, .int (nI j)), (3, .long (mxL (fun j => (f (57 + 11 * 0 + 1 + j)).toInt64) (31 * mvB f h 0 + (f (57 + (11 * 0))).toInt64) j)), (6, .ref (an 3)), (5, .int (nI 0)), (0, .ref fe), (1, .long h)] := hl
      replace hI : j ≤ nn f 57 := hI
      refine tS (st' := []) rfl ?_
      refine lv_iload hx hb dX5_mixVehicles_36 (lv_at hl 0 rfl) ?_
      refine lv_aload hx hb dX5_mixVehicles_38 (lv_at hl 2 rfl) ?_
      refine pcall (st1 := [.int (nI (nn f 57)), .int (nI j)]) (va_runV (As := []) (rest := [.int (nI j)]) ⟨hx, hb, hml, hown, hts⟩ (c_X1_size l G (an 3) (an 4) (an 5) (nn f 57) v0) (cwV 0 hts gX5_mixVehicles_X1_size rfl rfl rfl (by decide +kernel) ⟨Nat.le_of_ble_eq_true rfl, Nat.le_of_ble_eq_true rfl⟩) (PC.preV hE (va_recv hE.1 hP (ci := 1) (q0 := 3) rfl rfl) (hP.sub [3] rfl)) rfl rfl hl.1 rfl (lv_room (Nat.le_of_ble_eq_true rfl)) dX5_mixVehicles_40 ⟨Nat.zero_le _, Nat.zero_le _⟩) rfl ?_
      refine icmp_geN (tgt := 65) hx hb (by omega) (by omega) dX5_mixVehicles_43 (by decide) (fun c43 => ?_) (fun c43 => ?_)
      · skip
        have e9 : j = nn f (57 + (11 * 0)) := by show j = nn f 57; omega
        rw [e9] at hl
        have hl : lv_has ls 8 [(7, .int (nI (nn f (57 + (11 * 0))))), (3, .long (mvB f h (0 + 1))), (6, .ref (an 3)), (5, .int (nI 0)), (0, .ref fe), (1, .long h)] := hl
        refine lv_iinc (v := nI (0 + 1)) (lv' := [(5, .int (nI (0 + 1))), (7, .int (nI (nn f (57 + (11 * 0))))), (3, .long (mvB f h (0 + 1))), (6, .ref (an 3)), (0, .ref fe), (1, .long h)]) hx hb dX5_mixVehicles_65 hl (k := 3) rfl (nI_inc1 _) (by decide) rfl (fun ls hl => ?_)
        refine lv_goto (tgt := 5) hx hb dX5_mixVehicles_68 (by decide) ?_
        exact ih5 (0 + 1) _ (by omega) (lv_sub hl [0, 2, 4, 5] rfl) (by (try dsimp only); omega)
      · skip
        have hjj : j < _ := c43
        refine lv_lload_n hx hb dX5_mixVehicles_46 rfl (lv_at hl 1 rfl) ?_
        refine lv_aload hx hb dX5_mixVehicles_47 (lv_at hl 2 rfl) ?_
        refine lv_iload hx hb dX5_mixVehicles_49 (lv_at hl 0 rfl) ?_
        refine pcall (st1 := [.int ((w 0) j), .long (mxL (fun j => (f (57 + 11 * 0 + 1 + j)).toInt64) (31 * mvB f h 0 + (f (57 + (11 * 0))).toInt64) j)]) (va_runV (As := [.int (nI j)]) (rest := [.long (mxL (fun j => (f (57 + 11 * 0 + 1 + j)).toInt64) (31 * mvB f h 0 + (f (57 + (11 * 0))).toInt64) j)]) ⟨hx, hb, hml, hown, hts⟩ (c_X1_weightOf l G (an 3) (an 4) (an 5) 10 (nn f 57) v0 (w 0) (w 1) (by omega) (by omega) j hjj) (cwV 1 hts gX5_mixVehicles_X1_weightOf rfl rfl rfl (by decide +kernel) ⟨Nat.le_of_ble_eq_true rfl, Nat.le_of_ble_eq_true rfl⟩) (PC.preV hE (va_recv hE.1 hP (ci := 1) (q0 := 3) rfl rfl) (hP.sub [3, 4, 5] rfl)) rfl rfl hl.1 rfl (lv_room (Nat.le_of_ble_eq_true rfl)) dX5_mixVehicles_51 ⟨Nat.zero_le _, Nat.zero_le _⟩) rfl ?_
        refine tI (y := f (57 + 11 * 0 + 1 + j)) ((hcp.1 j hjj).trans (congrArg f (by omega))) ?_
        refine lv_i2l (v := (f (57 + 11 * 0 + 1 + j)).toInt64) hx hb dX5_mixVehicles_54 rfl ?_
        refine pcall (st1 := [.long (31 * (mxL (fun j => (f (57 + 11 * 0 + 1 + j)).toInt64) (31 * mvB f h 0 + (f (57 + (11 * 0))).toInt64) j) + ((f (57 + 11 * 0 + 1 + j)).toInt64))]) (va_runS (As := [.long (mxL (fun j => (f (57 + 11 * 0 + 1 + j)).toInt64) (31 * mvB f h 0 + (f (57 + (11 * 0))).toInt64) j), .long ((f (57 + 11 * 0 + 1 + j)).toInt64)]) (rest := []) ⟨hx, hb, hml, hown, hts⟩ (c_X5_mix l G (mxL (fun j => (f (57 + 11 * 0 + 1 + j)).toInt64) (31 * mvB f h 0 + (f (57 + (11 * 0))).toInt64) j) ((f (57 + 11 * 0 + 1 + j)).toInt64)) (va_cwS 2 hts gX5_mixVehicles_X5_mix rfl rfl rfl (by decide +kernel) ⟨Nat.le_of_ble_eq_true rfl, Nat.le_of_ble_eq_true rfl⟩) (PC.preS hE P_nil) rfl rfl hl.1 rfl (lv_room (Nat.le_of_ble_eq_true rfl)) dX5_mixVehicles_55 ⟨Nat.zero_le _, Nat.zero_le _⟩) rfl ?_
        refine lv_lstore_n (lv' := [(3, .long (31 * (mxL (fun j => (f (57 + 11 * 0 + 1 + j)).toInt64) (31 * mvB f h 0 + (f (57 + (11 * 0))).toInt64) j) + ((f (57 + 11 * 0 + 1 + j)).toInt64))), (7, .int (nI j)), (6, .ref (an 3)), (5, .int (nI 0)), (0, .ref fe), (1, .long h)]) hx hb dX5_mixVehicles_58 rfl hl (by decide) rfl (fun ls hl => ?_)
        refine lv_iinc (v := nI (j + 1)) (lv' := [(7, .int (nI (j + 1))), (3, .long (31 * (mxL (fun j => (f (57 + 11 * 0 + 1 + j)).toInt64) (31 * mvB f h 0 + (f (57 + (11 * 0))).toInt64) j) + ((f (57 + 11 * 0 + 1 + j)).toInt64))), (6, .ref (an 3)), (5, .int (nI 0)), (0, .ref fe), (1, .long h)]) hx hb dX5_mixVehicles_59 hl (k := 1) rfl (nI_inc1 _) (by decide) rfl (fun ls hl => ?_)
        refine lv_goto (tgt := 36) hx hb dX5_mixVehicles_62 (by decide) ?_
        exact ih36 (j + 1) _ (by omega) (lv_sub hl [0, 1, 2, 3, 4, 5] rfl) (by (try dsimp only); omega)
    · skip
      have hl : lv_has ls 8 [(5, .int (nI 1)), (3, .long (mvB f h 1)), (0, .ref fe), (1, .long h)] := hl
      refine lv_aload_n hx hb dX5_mixVehicles_11 rfl (lv_at hl 2 rfl) ?_
      refine va_get (D := G.1) (ci := 5) (v := .ref (an 0)) (C := RX5) (T := TX5) (N := 6) hx hb hts w_0 hown hE.1 hP 0 rfl rfl 0 (by decide) w_1 (fun _ h9 => h9) rfl dX5_mixVehicles_12 ?_
      refine lv_iload hx hb dX5_mixVehicles_15 (lv_at hl 0 rfl) ?_
      replace hP : va_P G.1 vwCl (cST G an f v0 v1 w ++ ([(fe, .inr (5, [.ref (an 0), .ref ta, .ref sa, .ref ha, .ref oa, .int hsn]))] ++ ([]))) s.heap := P_perm br1 hP
      refine pcall (st1 := [.ref (an 6)]) (va_runV (As := [.int (nI 1)]) (rest := []) ⟨hx, hb, hml, hown, hts⟩ (c_X3_lineAtBank_1 l G (an 0) (an 1) (an 2) (an 3) (an 6) (an 9) (an 12) (an 15) (f 50) (f 51) (f 52) (f 53) (f 54) (f 55) (f 56)) (cwV 1 hts gX5_mixVehicles_X3_lineAtBank rfl rfl rfl (by decide +kernel) ⟨Nat.le_of_ble_eq_true rfl, Nat.le_of_ble_eq_true rfl⟩) (PC.preV hE (va_recv hE.1 hP (ci := 3) (q0 := 0) rfl rfl) (hP.sub [0] rfl)) rfl rfl hl.1 rfl (lv_room (Nat.le_of_ble_eq_true rfl)) dX5_mixVehicles_17 ⟨Nat.zero_le _, Nat.zero_le _⟩) rfl ?_
      refine lv_astore (lv' := [(6, .ref (an 6)), (5, .int (nI 1)), (3, .long (mvB f h 1)), (0, .ref fe), (1, .long h)]) hx hb dX5_mixVehicles_20 hl (by decide) rfl (fun ls hl => ?_)
      refine lv_lload_n hx hb dX5_mixVehicles_22 rfl (lv_at hl 2 rfl) ?_
      refine lv_aload hx hb dX5_mixVehicles_23 (lv_at hl 0 rfl) ?_
      refine pcall (st1 := [.int (nI (nn f 68)), .long (mvB f h 1)]) (va_runV (As := []) (rest := [.long (mvB f h 1)]) ⟨hx, hb, hml, hown, hts⟩ (c_X1_size l G (an 6) (an 7) (an 8) (nn f 68) v1) (cwV 0 hts gX5_mixVehicles_X1_size rfl rfl rfl (by decide +kernel) ⟨Nat.le_of_ble_eq_true rfl, Nat.le_of_ble_eq_true rfl⟩) (PC.preV hE (va_recv hE.1 hP (ci := 1) (q0 := 6) rfl rfl) (hP.sub [6] rfl)) rfl rfl hl.1 rfl (lv_room (Nat.le_of_ble_eq_true rfl)) dX5_mixVehicles_25 ⟨Nat.zero_le _, Nat.zero_le _⟩) rfl ?_
      refine lv_i2l (v := (nI (nn f 68)).toInt64) hx hb dX5_mixVehicles_28 rfl ?_
      refine pcall (st1 := [.long (31 * (mvB f h 1) + ((nI (nn f 68)).toInt64))]) (va_runS (As := [.long (mvB f h 1), .long ((nI (nn f 68)).toInt64)]) (rest := []) ⟨hx, hb, hml, hown, hts⟩ (c_X5_mix l G (mvB f h 1) ((nI (nn f 68)).toInt64)) (va_cwS 2 hts gX5_mixVehicles_X5_mix rfl rfl rfl (by decide +kernel) ⟨Nat.le_of_ble_eq_true rfl, Nat.le_of_ble_eq_true rfl⟩) (PC.preS hE P_nil) rfl rfl hl.1 rfl (lv_room (Nat.le_of_ble_eq_true rfl)) dX5_mixVehicles_29 ⟨Nat.zero_le _, Nat.zero_le _⟩) rfl ?_
      refine tS (st' := [.long (31 * mvB f h 1 + (f (57 + (11 * 1))).toInt64)]) (congrArg (fun z => Value.long z :: []) (by rw [show f (57 + (11 * 1)) = nI (nn f 68) from (hs.2.1 1 (by omega)).1])) ?_
      refine lv_lstore_n (lv' := [(3, .long (31 * mvB f h 1 + (f (57 + (11 * 1))).toInt64)), (6, .ref (an 6)), (5, .int (nI 1)), (0, .ref fe), (1, .long h)]) hx hb dX5_mixVehicles_32 rfl hl (by decide) rfl (fun ls hl => ?_)
      refine lv_iconst (v := nI 0) hx hb dX5_mixVehicles_33 (by decide +kernel) ?_
      refine lv_istore (lv' := [(7, .int (nI 0)), (3, .long (31 * mvB f h 1 + (f (57 + (11 * 1))).toInt64)), (6, .ref (an 6)), (5, .int (nI 1)), (0, .ref fe), (1, .long h)]) hx hb dX5_mixVehicles_34 hl (by decide) rfl (fun ls hl => ?_)
      refine loopL (σ := Nat) (n := 8) (pc1 := 36) (fun j => nn f 68 - j) (fun j => j ≤ nn f 68) (fun j => [(7, .int (nI j)), (3, .long (mxL (fun j => (f (57 + 11 * 1 + 1 + j)).toInt64) (31 * mvB f h 1 + (f (57 + (11 * 1))).toInt64) j)), (6, .ref (an 6)), (5, .int (nI 1)), (0, .ref fe), (1, .long h)]) (fun j => []) ?_ (0) _ (Nat.zero_le _) (lv_sub hl [0, 1, 2, 3, 4, 5] rfl)
      rintro j ls hI hl ih36
      have hl : lv_has ls 8 [(7, .int (nI j)), (3, .long (mxL (fun j => (f (57 + 11 * 1 + 1 + j)).toInt64) (31 * mvB f h 1 + (f (57 + (11 * 1))).toInt64) j)), (6, .ref (an 6)), (5, .int (nI 1)), (0, .ref fe), (1, .long h)] := hl
      replace hI : j ≤ nn f 68 := hI
      refine tS (st' := []) rfl ?_
      refine lv_iload hx hb dX5_mixVehicles_36 (lv_at hl 0 rfl) ?_
      refine lv_aload hx hb dX5_mixVehicles_38 (lv_at hl 2 rfl) ?_
      refine pcall (st1 := [.int (nI (nn f 68)), .int (nI j)]) (va_runV (As := []) (rest := [.int (nI j)]) ⟨hx, hb, hml, hown, hts⟩ (c_X1_size l G (an 6) (an 7) (an 8) (nn f 68) v1) (cwV 0 hts gX5_mixVehicles_X1_size rfl rfl rfl (by decide +kernel) ⟨Nat.le_of_ble_eq_true rfl, Nat.le_of_ble_eq_true rfl⟩) (PC.preV hE (va_recv hE.1 hP (ci := 1) (q0 := 6) rfl rfl) (hP.sub [6] rfl)) rfl rfl hl.1 rfl (lv_room (Nat.le_of_ble_eq_true rfl)) dX5_mixVehicles_40 ⟨Nat.zero_le _, Nat.zero_le _⟩) rfl ?_
      refine icmp_geN (tgt := 65) hx hb (by omega) (by omega) dX5_mixVehicles_43 (by decide) (fun c43 => ?_) (fun c43 => ?_)
      · skip
        have e9 : j = nn f (57 + (11 * 1)) := by show j = nn f 68; omega
        rw [e9] at hl
        have hl : lv_has ls 8 [(7, .int (nI (nn f (57 + (11 * 1))))), (3, .long (mvB f h (1 + 1))), (6, .ref (an 6)), (5, .int (nI 1)), (0, .ref fe), (1, .long h)] := hl
        refine lv_iinc (v := nI (1 + 1)) (lv' := [(5, .int (nI (1 + 1))), (7, .int (nI (nn f (57 + (11 * 1))))), (3, .long (mvB f h (1 + 1))), (6, .ref (an 6)), (0, .ref fe), (1, .long h)]) hx hb dX5_mixVehicles_65 hl (k := 3) rfl (nI_inc1 _) (by decide) rfl (fun ls hl => ?_)
        refine lv_goto (tgt := 5) hx hb dX5_mixVehicles_68 (by decide) ?_
        exact ih5 (1 + 1) _ (by omega) (lv_sub hl [0, 2, 4, 5] rfl) (by (try dsimp only); omega)
      · skip
        have hjj : j < _ := c43
        refine lv_lload_n hx hb dX5_mixVehicles_46 rfl (lv_at hl 1 rfl) ?_
        refine lv_aload hx hb dX5_mixVehicles_47 (lv_at hl 2 rfl) ?_
        refine lv_iload hx hb dX5_mixVehicles_49 (lv_at hl 0 rfl) ?_
        refine pcall (st1 := [.int ((w 2) j), .long (mxL (fun j => (f (57 + 11 * 1 + 1 + j)).toInt64) (31 * mvB f h 1 + (f (57 + (11 * 1))).toInt64) j)]) (va_runV (As := [.int (nI j)]) (rest := [.long (mxL (fun j => (f (57 + 11 * 1 + 1 + j)).toInt64) (31 * mvB f h 1 + (f (57 + (11 * 1))).toInt64) j)]) ⟨hx, hb, hml, hown, hts⟩ (c_X1_weightOf l G (an 6) (an 7) (an 8) 10 (nn f 68) v1 (w 2) (w 3) (by omega) (by omega) j hjj) (cwV 1 hts gX5_mixVehicles_X1_weightOf rfl rfl rfl (by decide +kernel) ⟨Nat.le_of_ble_eq_true rfl, Nat.le_of_ble_eq_true rfl⟩) (PC.preV hE (va_recv hE.1 hP (ci := 1) (q0 := 6) rfl rfl) (hP.sub [6, 7, 8] rfl)) rfl rfl hl.1 rfl (lv_room (Nat.le_of_ble_eq_true rfl)) dX5_mixVehicles_51 ⟨Nat.zero_le _, Nat.zero_le _⟩) rfl ?_
        refine tI (y := f (57 + 11 * 1 + 1 + j)) ((hcp.2.1 j hjj).trans (congrArg f (by omega))) ?_
        refine lv_i2l (v := (f (57 + 11 * 1 + 1 + j)).toInt64) hx hb dX5_mixVehicles_54 rfl ?_
        refine pcall (st1 := [.long (31 * (mxL (fun j => (f (57 + 11 * 1 + 1 + j)).toInt64) (31 * mvB f h 1 + (f (57 + (11 * 1))).toInt64) j) + ((f (57 + 11 * 1 + 1 + j)).toInt64))]) (va_runS (As := [.long (mxL (fun j => (f (57 + 11 * 1 + 1 + j)).toInt64) (31 * mvB f h 1 + (f (57 + (11 * 1))).toInt64) j), .long ((f (57 + 11 * 1 + 1 + j)).toInt64)]) (rest := []) ⟨hx, hb, hml, hown, hts⟩ (c_X5_mix l G (mxL (fun j => (f (57 + 11 * 1 + 1 + j)).toInt64) (31 * mvB f h 1 + (f (57 + (11 * 1))).toInt64) j) ((f (57 + 11 * 1 + 1 + j)).toInt64)) (va_cwS 2 hts gX5_mixVehicles_X5_mix rfl rfl rfl (by decide +kernel) ⟨Nat.le_of_ble_eq_true rfl, Nat.le_of_ble_eq_true rfl⟩) (PC.preS hE P_nil) rfl rfl hl.1 rfl (lv_room (Nat.le_of_ble_eq_true rfl)) dX5_mixVehicles_55 ⟨Nat.zero_le _, Nat.zero_le _⟩) rfl ?_
        refine lv_lstore_n (lv' := [(3, .long (31 * (mxL (fun j => (f (57 + 11 * 1 + 1 + j)).toInt64) (31 * mvB f h 1 + (f (57 + (11 * 1))).toInt64) j) + ((f (57 + 11 * 1 + 1 + j)).toInt64))), (7, .int (nI j)), (6, .ref (an 6)), (5, .int (nI 1)), (0, .ref fe), (1, .long h)]) hx hb dX5_mixVehicles_58 rfl hl (by decide) rfl (fun ls hl => ?_)
        refine lv_iinc (v := nI (j + 1)) (lv' := [(7, .int (nI (j + 1))), (3, .long (31 * (mxL (fun j => (f (57 + 11 * 1 + 1 + j)).toInt64) (31 * mvB f h 1 + (f (57 + (11 * 1))).toInt64) j) + ((f (57 + 11 * 1 + 1 + j)).toInt64))), (6, .ref (an 6)), (5, .int (nI 1)), (0, .ref fe), (1, .long h)]) hx hb dX5_mixVehicles_59 hl (k := 1) rfl (nI_inc1 _) (by decide) rfl (fun ls hl => ?_)
        refine lv_goto (tgt := 36) hx hb dX5_mixVehicles_62 (by decide) ?_
        exact ih36 (j + 1) _ (by omega) (lv_sub hl [0, 1, 2, 3, 4, 5] rfl) (by (try dsimp only); omega)
set_option maxHeartbeats 4000000 in
set_option maxRecDepth 100000 in
theorem c_X5_mixOutlook (l : Launch) (G : eG) (fe sa ha oa : Nat) (hsn : Int32) (an : Nat → Nat) (f : Nat → Int32) (v0 v1 : Int32) (w : Nat → Nat → Int32) (tn : Nat → Nat) (tf : Nat → Int32) (tv0 tv1 : Int32) (tw : Nat → Nat → Int32) (hst : Shp tf) (hcp : CplW f w) (B : Nat) (hB : B < 700000000) (ho : Okf B f) (h : Int64) : Met l yX5_mixOutlook wsX5_mixOutlook ({ frames := 5, cells := 0, slots := 0, locals := 124 }) (PC [.ref fe, .long h] G (fun H => va_P G.1 vwCl ([(fe, .inr (5, [.ref (an 0), .ref (tn 0), .ref sa, .ref ha, .ref oa, .int hsn]))] ++ (cST G an f v0 v1 w ++ (cST G tn tf tv0 tv1 tw ++ ([])))) H ∧ va_D (fun _ => True) ([(fe, .inr (5, [.ref (an 0), .ref (tn 0), .ref sa, .ref ha, .ref oa, .int hsn]))] ++ (cST G an f v0 v1 w ++ (cST G tn tf tv0 tv1 tw ++ ([])))))) (MV (some (.long (hO f h))) (fun H => ∃ tf' t0' t1' tw', Shp tf' ∧ va_P G.1 vwCl ([(fe, .inr (5, [.ref (an 0), .ref (tn 0), .ref sa, .ref ha, .ref oa, .int hsn]))] ++ (cST G an f v0 v1 w ++ (cST G tn tf' t0' t1' tw' ++ ([])))) H ∧ va_D (inW ([(fe, .inr (5, [.ref (an 0), .ref (tn 0), .ref sa, .ref ha, .ref oa, .int hsn]))] ++ (cST G an f v0 v1 w ++ (cST G tn tf tv0 tv1 tw ++ ([]))))) ([(fe, .inr (5, [.ref (an 0), .ref (tn 0), .ref sa, .ref ha, .ref oa, .int hsn]))] ++ (cST G an f v0 v1 w ++ (cST G tn tf' t0' t1' tw' ++ ([]))))) (inW ([(fe, .inr (5, [.ref (an 0), .ref (tn 0), .ref sa, .ref ha, .ref oa, .int hsn]))] ++ (cST G an f v0 v1 w ++ (cST G tn tf tv0 tv1 tw ++ ([])))))) 0 0 (inW ([(fe, .inr (5, [.ref (an 0), .ref (tn 0), .ref sa, .ref ha, .ref oa, .int hsn]))] ++ (cST G an f v0 v1 w ++ (cST G tn tf tv0 tv1 tw ++ ([]))))) := by
  refine ofB (cc := cX5_mixOutlook) (maxL := 6) (ret := (some .long)) (by decide) rfl (Nat.le_of_ble_eq_true rfl) ?_
  intro p e s m below meth c hx hb hr hlocks hml hown hin hts hE hI ls hl
  replace hown : s.vm.findClass RX5 = some m.cls := hown
  have hl : lv_has ls 6 [(0, .ref fe), (1, .long h)] := hl
  obtain ⟨hP, hD0⟩ := hI
  have hD : va_D (inW ([(fe, .inr (5, [.ref (an 0), .ref (tn 0), .ref sa, .ref ha, .ref oa, .int hsn]))] ++ (cST G an f v0 v1 w ++ (cST G tn tf tv0 tv1 tw ++ ([]))))) ([(fe, .inr (5, [.ref (an 0), .ref (tn 0), .ref sa, .ref ha, .ref oa, .int hsn]))] ++ (cST G an f v0 v1 w ++ (cST G tn tf tv0 tv1 tw ++ ([])))) := D_self hD0
  obtain ⟨A, hAe⟩ : ∃ A, A = inW ([(fe, .inr (5, [.ref (an 0), .ref (tn 0), .ref sa, .ref ha, .ref oa, .int hsn]))] ++ (cST G an f v0 v1 w ++ (cST G tn tf tv0 tv1 tw ++ ([])))) := ⟨_, rfl⟩
  rw [← hAe] at hD ⊢
  have hS : va_S A s.heap s.heap [] := va_S.rf
  obtain ⟨H, hHe⟩ : ∃ H, H = s.heap := ⟨_, rfl⟩
  obtain ⟨locs, hle⟩ : ∃ q : List Loc, q = [] := ⟨_, rfl⟩
  rw [← hle] at hS ⊢
  have hP : va_P G.1 vwCl ([(fe, .inr (5, [.ref (an 0), .ref (tn 0), .ref sa, .ref ha, .ref oa, .int hsn]))] ++ (cST G an f v0 v1 w ++ (cST G tn tf tv0 tv1 tw ++ ([])))) H := by rw [hHe]; exact hP
  replace hS : va_S A s.heap H locs := by rw [hHe]; exact hS
  refine tH hHe ?_
  have hs := okf_shp (by omega) ho
  refine lv_lload_n hx hb dX5_mixOutlook_0 rfl (lv_at hl 1 rfl) ?_
  refine lv_lstore_n (lv' := [(3, .long h), (0, .ref fe), (1, .long h)]) hx hb dX5_mixOutlook_1 rfl hl (by decide) rfl (fun ls hl => ?_)
  refine lv_lload_n hx hb dX5_mixOutlook_2 rfl (lv_at hl 0 rfl) ?_
  refine lv_aload_n hx hb dX5_mixOutlook_3 rfl (lv_at hl 1 rfl) ?_
  replace hP : va_P G.1 vwCl (cST G an f v0 v1 w ++ ([(fe, .inr (5, [.ref (an 0), .ref (tn 0), .ref sa, .ref ha, .ref oa, .int hsn]))] ++ (cST G tn tf tv0 tv1 tw ++ ([])))) H := P_perm br1 hP
  replace hD : va_D A (cST G an f v0 v1 w ++ ([(fe, .inr (5, [.ref (an 0), .ref (tn 0), .ref sa, .ref ha, .ref oa, .int hsn]))] ++ (cST G tn tf tv0 tv1 tw ++ ([])))) := D_perm br1 hD
  replace hP : va_P G.1 vwCl ([(fe, .inr (5, [.ref (an 0), .ref (tn 0), .ref sa, .ref ha, .ref oa, .int hsn]))] ++ (cST G an f v0 v1 w ++ (cST G tn tf tv0 tv1 tw ++ ([])))) H := P_perm br1 hP
  replace hD : va_D A ([(fe, .inr (5, [.ref (an 0), .ref (tn 0), .ref sa, .ref ha, .ref oa, .int hsn]))] ++ (cST G an f v0 v1 w ++ (cST G tn tf tv0 tv1 tw ++ ([])))) := D_perm br1 hD
  have hPc : va_P G.1 vwCl ([(fe, .inr (5, [.ref (an 0), .ref (tn 0), .ref sa, .ref ha, .ref oa, .int hsn]))] ++ (cST G an f v0 v1 w ++ ([]))) H := P_pre (w := ([(fe, .inr (5, [.ref (an 0), .ref (tn 0), .ref sa, .ref ha, .ref oa, .int hsn]))] ++ (cST G an f v0 v1 w ++ ([])))) (r := (cST G tn tf tv0 tv1 tw ++ ([]))) (by simpa only [List.append_assoc, List.nil_append, List.append_nil] using hP)
  refine pcall (st1 := [.int (fRsn f), .long h]) (va_runV (As := []) (rest := [.long h]) ⟨hx, hb, hml, hown, hts⟩ (c_X5_why l G fe (tn 0) sa ha oa hsn an f v0 v1 w hs) (cwV 0 hts gX5_mixOutlook_X5_why rfl rfl rfl (by decide +kernel) ⟨Nat.le_of_ble_eq_true rfl, Nat.le_of_ble_eq_true rfl⟩) (PC.preV hE (va_recv hE.1 hP (ci := 5) (q0 := 0) rfl rfl) hPc) rfl rfl hl.1 rfl (lv_room (Nat.le_of_ble_eq_true rfl)) dX5_mixOutlook_4 ⟨Nat.zero_le _, Nat.zero_le _⟩) rfl ?_
  refine lv_i2l (v := (fRsn f).toInt64) hx hb dX5_mixOutlook_7 rfl ?_
  refine pcall (st1 := [.long (31 * h + ((fRsn f).toInt64))]) (va_runS (As := [.long h, .long ((fRsn f).toInt64)]) (rest := []) ⟨hx, hb, hml, hown, hts⟩ (c_X5_mix l G h ((fRsn f).toInt64)) (va_cwS 2 hts gX5_mixOutlook_X5_mix rfl rfl rfl (by decide +kernel) ⟨Nat.le_of_ble_eq_true rfl, Nat.le_of_ble_eq_true rfl⟩) (PC.preS hE P_nil) rfl rfl hl.1 rfl (lv_room (Nat.le_of_ble_eq_true rfl)) dX5_mixOutlook_8 ⟨Nat.zero_le _, Nat.zero_le _⟩) rfl ?_
  refine lv_lstore_n (lv' := [(3, .long (31 * h + ((fRsn f).toInt64))), (0, .ref fe), (1, .long h)]) hx hb dX5_mixOutlook_11 rfl hl (by decide) rfl (fun ls hl => ?_)
  refine lv_lload_n hx hb dX5_mixOutlook_12 rfl (lv_at hl 0 rfl) ?_
  refine lv_aload_n hx hb dX5_mixOutlook_13 rfl (lv_at hl 1 rfl) ?_
  replace hP : va_P G.1 vwCl (cST G an f v0 v1 w ++ ([(fe, .inr (5, [.ref (an 0), .ref (tn 0), .ref sa, .ref ha, .ref oa, .int hsn]))] ++ (cST G tn tf tv0 tv1 tw ++ ([])))) H := P_perm br1 hP
  replace hD : va_D A (cST G an f v0 v1 w ++ ([(fe, .inr (5, [.ref (an 0), .ref (tn 0), .ref sa, .ref ha, .ref oa, .int hsn]))] ++ (cST G tn tf tv0 tv1 tw ++ ([])))) := D_perm br1 hD
  replace hP : va_P G.1 vwCl ([(fe, .inr (5, [.ref (an 0), .ref (tn 0), .ref sa, .ref ha, .ref oa, .int hsn]))] ++ (cST G an f v0 v1 w ++ (cST G tn tf tv0 tv1 tw ++ ([])))) H := P_perm br1 hP
  replace hD : va_D A ([(fe, .inr (5, [.ref (an 0), .ref (tn 0), .ref sa, .ref ha, .ref oa, .int hsn]))] ++ (cST G an f v0 v1 w ++ (cST G tn tf tv0 tv1 tw ++ ([])))) := D_perm br1 hD
  have hPc : va_P G.1 vwCl ([(fe, .inr (5, [.ref (an 0), .ref (tn 0), .ref sa, .ref ha, .ref oa, .int hsn]))] ++ (cST G an f v0 v1 w ++ ([]))) H := P_pre (w := ([(fe, .inr (5, [.ref (an 0), .ref (tn 0), .ref sa, .ref ha, .ref oa, .int hsn]))] ++ (cST G an f v0 v1 w ++ ([])))) (r := (cST G tn tf tv0 tv1 tw ++ ([]))) (by simpa only [List.append_assoc, List.nil_append, List.append_nil] using hP)
  refine pcall (st1 := [.int (nI (wkN f 20)), .long (31 * h + ((fRsn f).toInt64))]) (va_runV (As := []) (rest := [.long (31 * h + ((fRsn f).toInt64))]) ⟨hx, hb, hml, hown, hts⟩ (c_X5_weakest_ok l G fe (tn 0) sa ha oa hsn an f v0 v1 w hs) (cwV 0 hts gX5_mixOutlook_X5_weakest rfl rfl rfl (by decide +kernel) ⟨Nat.le_of_ble_eq_true rfl, Nat.le_of_ble_eq_true rfl⟩) (PC.preV hE (va_recv hE.1 hP (ci := 5) (q0 := 0) rfl rfl) hPc) rfl rfl hl.1 rfl (lv_room (Nat.le_of_ble_eq_true rfl)) dX5_mixOutlook_14 ⟨Nat.zero_le _, Nat.zero_le _⟩) rfl ?_
  refine lv_i2l (v := (nI (wkN f 20)).toInt64) hx hb dX5_mixOutlook_17 rfl ?_
  refine pcall (st1 := [.long (31 * (31 * h + ((fRsn f).toInt64)) + ((nI (wkN f 20)).toInt64))]) (va_runS (As := [.long (31 * h + ((fRsn f).toInt64)), .long ((nI (wkN f 20)).toInt64)]) (rest := []) ⟨hx, hb, hml, hown, hts⟩ (c_X5_mix l G (31 * h + ((fRsn f).toInt64)) ((nI (wkN f 20)).toInt64)) (va_cwS 2 hts gX5_mixOutlook_X5_mix rfl rfl rfl (by decide +kernel) ⟨Nat.le_of_ble_eq_true rfl, Nat.le_of_ble_eq_true rfl⟩) (PC.preS hE P_nil) rfl rfl hl.1 rfl (lv_room (Nat.le_of_ble_eq_true rfl)) dX5_mixOutlook_18 ⟨Nat.zero_le _, Nat.zero_le _⟩) rfl ?_
  refine lv_lstore_n (lv' := [(3, .long (31 * (31 * h + ((fRsn f).toInt64)) + ((nI (wkN f 20)).toInt64))), (0, .ref fe), (1, .long h)]) hx hb dX5_mixOutlook_21 rfl hl (by decide) rfl (fun ls hl => ?_)
  refine lv_lload_n hx hb dX5_mixOutlook_22 rfl (lv_at hl 0 rfl) ?_
  refine lv_aload_n hx hb dX5_mixOutlook_23 rfl (lv_at hl 1 rfl) ?_
  refine lv_iconst (v := nI 0) hx hb dX5_mixOutlook_24 (by decide +kernel) ?_
  replace hP : va_P G.1 vwCl (cST G tn tf tv0 tv1 tw ++ ([(fe, .inr (5, [.ref (an 0), .ref (tn 0), .ref sa, .ref ha, .ref oa, .int hsn]))] ++ (cST G an f v0 v1 w ++ ([])))) H := P_perm br2 hP
  replace hD : va_D A (cST G tn tf tv0 tv1 tw ++ ([(fe, .inr (5, [.ref (an 0), .ref (tn 0), .ref sa, .ref ha, .ref oa, .int hsn]))] ++ (cST G an f v0 v1 w ++ ([])))) := D_perm br2 hD
  replace hP : va_P G.1 vwCl (cST G an f v0 v1 w ++ (cST G tn tf tv0 tv1 tw ++ ([(fe, .inr (5, [.ref (an 0), .ref (tn 0), .ref sa, .ref ha, .ref oa, .int hsn]))] ++ ([])))) H := P_perm br2 hP
  replace hD : va_D A (cST G an f v0 v1 w ++ (cST G tn tf tv0 tv1 tw ++ ([(fe, .inr (5, [.ref (an 0), .ref (tn 0), .ref sa, .ref ha, .ref oa, .int hsn]))] ++ ([])))) := D_perm br2 hD
  replace hP : va_P G.1 vwCl ([(fe, .inr (5, [.ref (an 0), .ref (tn 0), .ref sa, .ref ha, .ref oa, .int hsn]))] ++ (cST G an f v0 v1 w ++ (cST G tn tf tv0 tv1 tw ++ ([])))) H := P_perm br2 hP
  replace hD : va_D A ([(fe, .inr (5, [.ref (an 0), .ref (tn 0), .ref sa, .ref ha, .ref oa, .int hsn]))] ++ (cST G an f v0 v1 w ++ (cST G tn tf tv0 tv1 tw ++ ([])))) := D_perm br2 hD
  replace hP : va_P G.1 vwCl (([(fe, .inr (5, [.ref (an 0), .ref (tn 0), .ref sa, .ref ha, .ref oa, .int hsn]))] ++ (cST G an f v0 v1 w ++ (cST G tn tf tv0 tv1 tw ++ ([])))) ++ []) H := by simpa only [List.append_assoc, List.nil_append] using hP
  replace hD : va_D A (([(fe, .inr (5, [.ref (an 0), .ref (tn 0), .ref sa, .ref ha, .ref oa, .int hsn]))] ++ (cST G an f v0 v1 w ++ (cST G tn tf tv0 tv1 tw ++ ([])))) ++ []) := by simpa only [List.append_assoc, List.nil_append] using hD
  have hPc := P_pre hP
  have hDc := D_pre hD
  refine mcall (st1 := [.int (fWl f 0), .long (31 * (31 * h + ((fRsn f).toInt64)) + ((nI (wkN f 20)).toInt64))]) (va_runV (As := [.int (nI 0)]) (rest := [.long (31 * (31 * h + ((fRsn f).toInt64)) + ((nI (wkN f 20)).toInt64))]) ⟨hx, hb, hml, hown, hts⟩ (c_X5_ifLoaded_ok l G fe sa ha oa hsn an f v0 v1 w tn tf tv0 tv1 tw hst hcp B (by omega) ho 0 (by omega)) (cwV 1 hts gX5_mixOutlook_X5_ifLoaded rfl rfl rfl (by decide +kernel) ⟨Nat.le_of_ble_eq_true rfl, Nat.le_of_ble_eq_true rfl⟩) (PC.preV hE (va_recv hE.1 hP (ci := 5) (q0 := 0) rfl rfl) ⟨hPc, hDc.weaken (fun _ _ _ _ => trivial)⟩) rfl rfl hl.1 rfl (lv_room (Nat.le_of_ble_eq_true rfl)) dX5_mixOutlook_25 ⟨Nat.zero_le _, Nat.zero_le _⟩) hS (fun q _ h => inW_D hDc q h) (fun q h => inW_D hDc q h) rfl (fun H1 locs1 hB hz1 hk1 hS => ?_)
  obtain ⟨ntf_25, nt0_25, nt1_25, ntw_25, nst_25, hB⟩ := hB
  obtain ⟨hP1, hD1⟩ := hB
  obtain ⟨hP, hD⟩ := jnF (w1 := ([(fe, .inr (5, [.ref (an 0), .ref (tn 0), .ref sa, .ref ha, .ref oa, .int hsn]))] ++ (cST G an f v0 v1 w ++ (cST G tn ntf_25 nt0_25 nt1_25 ntw_25 ++ ([]))))) hP hD hk1 hP1 hD1
  generalize H1 = H at hP hS ⊢
  replace hP : va_P G.1 vwCl ([(fe, .inr (5, [.ref (an 0), .ref (tn 0), .ref sa, .ref ha, .ref oa, .int hsn]))] ++ (cST G an f v0 v1 w ++ (cST G tn ntf_25 nt0_25 nt1_25 ntw_25 ++ ([])))) H := by simpa only [List.append_assoc, List.nil_append] using hP
  replace hD : va_D A ([(fe, .inr (5, [.ref (an 0), .ref (tn 0), .ref sa, .ref ha, .ref oa, .int hsn]))] ++ (cST G an f v0 v1 w ++ (cST G tn ntf_25 nt0_25 nt1_25 ntw_25 ++ ([])))) := by simpa only [List.append_assoc, List.nil_append] using hD
  have hP : va_P G.1 vwCl ([(fe, .inr (5, [.ref (an 0), .ref (tn 0), .ref sa, .ref ha, .ref oa, .int hsn]))] ++ (cST G an f v0 v1 w ++ (cST G tn ntf_25 nt0_25 nt1_25 ntw_25 ++ ([])))) H := hP
  have hD : va_D A ([(fe, .inr (5, [.ref (an 0), .ref (tn 0), .ref sa, .ref ha, .ref oa, .int hsn]))] ++ (cST G an f v0 v1 w ++ (cST G tn ntf_25 nt0_25 nt1_25 ntw_25 ++ ([])))) := hD
  refine lv_i2l (v := (fWl f 0).toInt64) hx hb dX5_mixOutlook_28 rfl ?_
  refine pcall (st1 := [.long (31 * (31 * (31 * h + ((fRsn f).toInt64)) + ((nI (wkN f 20)).toInt64)) + ((fWl f 0).toInt64))]) (va_runS (As := [.long (31 * (31 * h + ((fRsn f).toInt64)) + ((nI (wkN f 20)).toInt64)), .long ((fWl f 0).toInt64)]) (rest := []) ⟨hx, hb, hml, hown, hts⟩ (c_X5_mix l G (31 * (31 * h + ((fRsn f).toInt64)) + ((nI (wkN f 20)).toInt64)) ((fWl f 0).toInt64)) (va_cwS 2 hts gX5_mixOutlook_X5_mix rfl rfl rfl (by decide +kernel) ⟨Nat.le_of_ble_eq_true rfl, Nat.le_of_ble_eq_true rfl⟩) (PC.preS hE P_nil) rfl rfl hl.1 rfl (lv_room (Nat.le_of_ble_eq_true rfl)) dX5_mixOutlook_29 ⟨Nat.zero_le _, Nat.zero_le _⟩) rfl ?_
  refine lv_lstore_n (lv' := [(3, .long (31 * (31 * (31 * h + ((fRsn f).toInt64)) + ((nI (wkN f 20)).toInt64)) + ((fWl f 0).toInt64))), (0, .ref fe), (1, .long h)]) hx hb dX5_mixOutlook_32 rfl hl (by decide) rfl (fun ls hl => ?_)
  refine lv_lload_n hx hb dX5_mixOutlook_33 rfl (lv_at hl 0 rfl) ?_
  refine lv_aload_n hx hb dX5_mixOutlook_34 rfl (lv_at hl 1 rfl) ?_
  refine lv_iconst (v := nI 1) hx hb dX5_mixOutlook_35 (by decide +kernel) ?_
  replace hP : va_P G.1 vwCl (cST G tn ntf_25 nt0_25 nt1_25 ntw_25 ++ ([(fe, .inr (5, [.ref (an 0), .ref (tn 0), .ref sa, .ref ha, .ref oa, .int hsn]))] ++ (cST G an f v0 v1 w ++ ([])))) H := P_perm br2 hP
  replace hD : va_D A (cST G tn ntf_25 nt0_25 nt1_25 ntw_25 ++ ([(fe, .inr (5, [.ref (an 0), .ref (tn 0), .ref sa, .ref ha, .ref oa, .int hsn]))] ++ (cST G an f v0 v1 w ++ ([])))) := D_perm br2 hD
  replace hP : va_P G.1 vwCl (cST G an f v0 v1 w ++ (cST G tn ntf_25 nt0_25 nt1_25 ntw_25 ++ ([(fe, .inr (5, [.ref (an 0), .ref (tn 0), .ref sa, .ref ha, .ref oa, .int hsn]))] ++ ([])))) H := P_perm br2 hP
  replace hD : va_D A (cST G an f v0 v1 w ++ (cST G tn ntf_25 nt0_25 nt1_25 ntw_25 ++ ([(fe, .inr (5, [.ref (an 0), .ref (tn 0), .ref sa, .ref ha, .ref oa, .int hsn]))] ++ ([])))) := D_perm br2 hD
  replace hP : va_P G.1 vwCl ([(fe, .inr (5, [.ref (an 0), .ref (tn 0), .ref sa, .ref ha, .ref oa, .int hsn]))] ++ (cST G an f v0 v1 w ++ (cST G tn ntf_25 nt0_25 nt1_25 ntw_25 ++ ([])))) H := P_perm br2 hP
  replace hD : va_D A ([(fe, .inr (5, [.ref (an 0), .ref (tn 0), .ref sa, .ref ha, .ref oa, .int hsn]))] ++ (cST G an f v0 v1 w ++ (cST G tn ntf_25 nt0_25 nt1_25 ntw_25 ++ ([])))) := D_perm br2 hD
  replace hP : va_P G.1 vwCl (([(fe, .inr (5, [.ref (an 0), .ref (tn 0), .ref sa, .ref ha, .ref oa, .int hsn]))] ++ (cST G an f v0 v1 w ++ (cST G tn ntf_25 nt0_25 nt1_25 ntw_25 ++ ([])))) ++ []) H := by simpa only [List.append_assoc, List.nil_append] using hP
  replace hD : va_D A (([(fe, .inr (5, [.ref (an 0), .ref (tn 0), .ref sa, .ref ha, .ref oa, .int hsn]))] ++ (cST G an f v0 v1 w ++ (cST G tn ntf_25 nt0_25 nt1_25 ntw_25 ++ ([])))) ++ []) := by simpa only [List.append_assoc, List.nil_append] using hD
  have hPc := P_pre hP
  have hDc := D_pre hD
  refine mcall (st1 := [.int (fWl f 1), .long (31 * (31 * (31 * h + ((fRsn f).toInt64)) + ((nI (wkN f 20)).toInt64)) + ((fWl f 0).toInt64))]) (va_runV (As := [.int (nI 1)]) (rest := [.long (31 * (31 * (31 * h + ((fRsn f).toInt64)) + ((nI (wkN f 20)).toInt64)) + ((fWl f 0).toInt64))]) ⟨hx, hb, hml, hown, hts⟩ (c_X5_ifLoaded_ok l G fe sa ha oa hsn an f v0 v1 w tn ntf_25 nt0_25 nt1_25 ntw_25 nst_25 hcp B (by omega) ho 1 (by omega)) (cwV 1 hts gX5_mixOutlook_X5_ifLoaded rfl rfl rfl (by decide +kernel) ⟨Nat.le_of_ble_eq_true rfl, Nat.le_of_ble_eq_true rfl⟩) (PC.preV hE (va_recv hE.1 hP (ci := 5) (q0 := 0) rfl rfl) ⟨hPc, hDc.weaken (fun _ _ _ _ => trivial)⟩) rfl rfl hl.1 rfl (lv_room (Nat.le_of_ble_eq_true rfl)) dX5_mixOutlook_36 ⟨Nat.zero_le _, Nat.zero_le _⟩) hS (fun q _ h => inW_D hDc q h) (fun q h => inW_D hDc q h) rfl (fun H1 locs1 hB hz1 hk1 hS => ?_)
  obtain ⟨ntf_36, nt0_36, nt1_36, ntw_36, nst_36, hB⟩ := hB
  obtain ⟨hP1, hD1⟩ := hB
  obtain ⟨hP, hD⟩ := jnF (w1 := ([(fe, .inr (5, [.ref (an 0), .ref (tn 0), .ref sa, .ref ha, .ref oa, .int hsn]))] ++ (cST G an f v0 v1 w ++ (cST G tn ntf_36 nt0_36 nt1_36 ntw_36 ++ ([]))))) hP hD hk1 hP1 hD1
  generalize H1 = H at hP hS ⊢
  replace hP : va_P G.1 vwCl ([(fe, .inr (5, [.ref (an 0), .ref (tn 0), .ref sa, .ref ha, .ref oa, .int hsn]))] ++ (cST G an f v0 v1 w ++ (cST G tn ntf_36 nt0_36 nt1_36 ntw_36 ++ ([])))) H := by simpa only [List.append_assoc, List.nil_append] using hP
  replace hD : va_D A ([(fe, .inr (5, [.ref (an 0), .ref (tn 0), .ref sa, .ref ha, .ref oa, .int hsn]))] ++ (cST G an f v0 v1 w ++ (cST G tn ntf_36 nt0_36 nt1_36 ntw_36 ++ ([])))) := by simpa only [List.append_assoc, List.nil_append] using hD
  have hP : va_P G.1 vwCl ([(fe, .inr (5, [.ref (an 0), .ref (tn 0), .ref sa, .ref ha, .ref oa, .int hsn]))] ++ (cST G an f v0 v1 w ++ (cST G tn ntf_36 nt0_36 nt1_36 ntw_36 ++ ([])))) H := hP
  have hD : va_D A ([(fe, .inr (5, [.ref (an 0), .ref (tn 0), .ref sa, .ref ha, .ref oa, .int hsn]))] ++ (cST G an f v0 v1 w ++ (cST G tn ntf_36 nt0_36 nt1_36 ntw_36 ++ ([])))) := hD
  refine lv_i2l (v := (fWl f 1).toInt64) hx hb dX5_mixOutlook_39 rfl ?_
  refine pcall (st1 := [.long (31 * (31 * (31 * (31 * h + ((fRsn f).toInt64)) + ((nI (wkN f 20)).toInt64)) + ((fWl f 0).toInt64)) + ((fWl f 1).toInt64))]) (va_runS (As := [.long (31 * (31 * (31 * h + ((fRsn f).toInt64)) + ((nI (wkN f 20)).toInt64)) + ((fWl f 0).toInt64)), .long ((fWl f 1).toInt64)]) (rest := []) ⟨hx, hb, hml, hown, hts⟩ (c_X5_mix l G (31 * (31 * (31 * h + ((fRsn f).toInt64)) + ((nI (wkN f 20)).toInt64)) + ((fWl f 0).toInt64)) ((fWl f 1).toInt64)) (va_cwS 2 hts gX5_mixOutlook_X5_mix rfl rfl rfl (by decide +kernel) ⟨Nat.le_of_ble_eq_true rfl, Nat.le_of_ble_eq_true rfl⟩) (PC.preS hE P_nil) rfl rfl hl.1 rfl (lv_room (Nat.le_of_ble_eq_true rfl)) dX5_mixOutlook_40 ⟨Nat.zero_le _, Nat.zero_le _⟩) rfl ?_
  refine lv_lstore_n (lv' := [(3, .long (31 * (31 * (31 * (31 * h + ((fRsn f).toInt64)) + ((nI (wkN f 20)).toInt64)) + ((fWl f 0).toInt64)) + ((fWl f 1).toInt64))), (0, .ref fe), (1, .long h)]) hx hb dX5_mixOutlook_43 rfl hl (by decide) rfl (fun ls hl => ?_)
  refine lv_lload_n hx hb dX5_mixOutlook_44 rfl (lv_at hl 0 rfl) ?_
  refine lv_aload_n hx hb dX5_mixOutlook_45 rfl (lv_at hl 1 rfl) ?_
  replace hP : va_P G.1 vwCl (cST G an f v0 v1 w ++ ([(fe, .inr (5, [.ref (an 0), .ref (tn 0), .ref sa, .ref ha, .ref oa, .int hsn]))] ++ (cST G tn ntf_36 nt0_36 nt1_36 ntw_36 ++ ([])))) H := P_perm br1 hP
  replace hD : va_D A (cST G an f v0 v1 w ++ ([(fe, .inr (5, [.ref (an 0), .ref (tn 0), .ref sa, .ref ha, .ref oa, .int hsn]))] ++ (cST G tn ntf_36 nt0_36 nt1_36 ntw_36 ++ ([])))) := D_perm br1 hD
  replace hP : va_P G.1 vwCl ([(fe, .inr (5, [.ref (an 0), .ref (tn 0), .ref sa, .ref ha, .ref oa, .int hsn]))] ++ (cST G an f v0 v1 w ++ (cST G tn ntf_36 nt0_36 nt1_36 ntw_36 ++ ([])))) H := P_perm br1 hP
  replace hD : va_D A ([(fe, .inr (5, [.ref (an 0), .ref (tn 0), .ref sa, .ref ha, .ref oa, .int hsn]))] ++ (cST G an f v0 v1 w ++ (cST G tn ntf_36 nt0_36 nt1_36 ntw_36 ++ ([])))) := D_perm br1 hD
  have hPc : va_P G.1 vwCl ([(fe, .inr (5, [.ref (an 0), .ref (tn 0), .ref sa, .ref ha, .ref oa, .int hsn]))] ++ (cST G an f v0 v1 w ++ ([]))) H := P_pre (w := ([(fe, .inr (5, [.ref (an 0), .ref (tn 0), .ref sa, .ref ha, .ref oa, .int hsn]))] ++ (cST G an f v0 v1 w ++ ([])))) (r := (cST G tn ntf_36 nt0_36 nt1_36 ntw_36 ++ ([]))) (by simpa only [List.append_assoc, List.nil_append, List.append_nil] using hP)
  refine pcall (st1 := [.int (nI (bN f 24)), .long (31 * (31 * (31 * (31 * h + ((fRsn f).toInt64)) + ((nI (wkN f 20)).toInt64)) + ((fWl f 0).toInt64)) + ((fWl f 1).toInt64))]) (va_runV (As := []) (rest := [.long (31 * (31 * (31 * (31 * h + ((fRsn f).toInt64)) + ((nI (wkN f 20)).toInt64)) + ((fWl f 0).toInt64)) + ((fWl f 1).toInt64))]) ⟨hx, hb, hml, hown, hts⟩ (c_X5_bestHour_ok l G fe (tn 0) sa ha oa hsn an f v0 v1 w hs) (cwV 0 hts gX5_mixOutlook_X5_bestHour rfl rfl rfl (by decide +kernel) ⟨Nat.le_of_ble_eq_true rfl, Nat.le_of_ble_eq_true rfl⟩) (PC.preV hE (va_recv hE.1 hP (ci := 5) (q0 := 0) rfl rfl) hPc) rfl rfl hl.1 rfl (lv_room (Nat.le_of_ble_eq_true rfl)) dX5_mixOutlook_46 ⟨Nat.zero_le _, Nat.zero_le _⟩) rfl ?_
  refine lv_i2l (v := (nI (bN f 24)).toInt64) hx hb dX5_mixOutlook_49 rfl ?_
  refine pcall (st1 := [.long (31 * (31 * (31 * (31 * (31 * h + ((fRsn f).toInt64)) + ((nI (wkN f 20)).toInt64)) + ((fWl f 0).toInt64)) + ((fWl f 1).toInt64)) + ((nI (bN f 24)).toInt64))]) (va_runS (As := [.long (31 * (31 * (31 * (31 * h + ((fRsn f).toInt64)) + ((nI (wkN f 20)).toInt64)) + ((fWl f 0).toInt64)) + ((fWl f 1).toInt64)), .long ((nI (bN f 24)).toInt64)]) (rest := []) ⟨hx, hb, hml, hown, hts⟩ (c_X5_mix l G (31 * (31 * (31 * (31 * h + ((fRsn f).toInt64)) + ((nI (wkN f 20)).toInt64)) + ((fWl f 0).toInt64)) + ((fWl f 1).toInt64)) ((nI (bN f 24)).toInt64)) (va_cwS 2 hts gX5_mixOutlook_X5_mix rfl rfl rfl (by decide +kernel) ⟨Nat.le_of_ble_eq_true rfl, Nat.le_of_ble_eq_true rfl⟩) (PC.preS hE P_nil) rfl rfl hl.1 rfl (lv_room (Nat.le_of_ble_eq_true rfl)) dX5_mixOutlook_50 ⟨Nat.zero_le _, Nat.zero_le _⟩) rfl ?_
  refine lv_lstore_n (lv' := [(3, .long (31 * (31 * (31 * (31 * (31 * h + ((fRsn f).toInt64)) + ((nI (wkN f 20)).toInt64)) + ((fWl f 0).toInt64)) + ((fWl f 1).toInt64)) + ((nI (bN f 24)).toInt64))), (0, .ref fe), (1, .long h)]) hx hb dX5_mixOutlook_53 rfl hl (by decide) rfl (fun ls hl => ?_)
  refine lv_iconst (v := nI 1) hx hb dX5_mixOutlook_54 (by decide +kernel) ?_
  refine lv_istore (lv' := [(5, .int (nI 1)), (3, .long (31 * (31 * (31 * (31 * (31 * h + ((fRsn f).toInt64)) + ((nI (wkN f 20)).toInt64)) + ((fWl f 0).toInt64)) + ((fWl f 1).toInt64)) + ((nI (bN f 24)).toInt64))), (0, .ref fe), (1, .long h)]) hx hb dX5_mixOutlook_55 hl (by decide) rfl (fun ls hl => ?_)
  refine loopL (σ := Nat) (n := 6) (pc1 := 57) (fun i => 5 - i) (fun i => 1 ≤ i ∧ i ≤ 5) (fun i => [(5, .int (nI i)), (3, .long (mxL (fun k => (fLs f (1 + k)).toInt64) (hO1 f h) (i - 1))), (0, .ref fe), (1, .long h)]) (fun i => []) ?_ (1) _ ⟨by omega, by omega⟩ (lv_sub hl [0, 1, 2, 3] rfl)
  rintro i ls hI hl ih57
  have hl : lv_has ls 6 [(5, .int (nI i)), (3, .long (mxL (fun k => (fLs f (1 + k)).toInt64) (hO1 f h) (i - 1))), (0, .ref fe), (1, .long h)] := hl
  replace hI : 1 ≤ i ∧ i ≤ 5 := hI
  obtain ⟨i1, i2⟩ := hI
  refine tS (st' := []) rfl ?_
  refine lv_iload hx hb dX5_mixOutlook_57 (lv_at hl 0 rfl) ?_
  refine lv_iconst (v := nI 4) hx hb dX5_mixOutlook_59 (by decide +kernel) ?_
  refine icmp_gtN (tgt := 81) hx hb (by omega) (by omega) dX5_mixOutlook_60 (by decide) (fun c60 => ?_) (fun c60 => ?_)
  · skip
    rw [show i - 1 = 4 by omega] at hl
    have hl : lv_has ls 6 [(5, .int (nI i)), (3, .long (hO2 f h)), (0, .ref fe), (1, .long h)] := hl
    refine lv_lload_n hx hb dX5_mixOutlook_81 rfl (lv_at hl 1 rfl) ?_
    refine lv_aload_n hx hb dX5_mixOutlook_82 rfl (lv_at hl 2 rfl) ?_
    replace hP : va_P G.1 vwCl (cST G tn ntf_36 nt0_36 nt1_36 ntw_36 ++ ([(fe, .inr (5, [.ref (an 0), .ref (tn 0), .ref sa, .ref ha, .ref oa, .int hsn]))] ++ (cST G an f v0 v1 w ++ ([])))) H := P_perm br2 hP
    replace hD : va_D A (cST G tn ntf_36 nt0_36 nt1_36 ntw_36 ++ ([(fe, .inr (5, [.ref (an 0), .ref (tn 0), .ref sa, .ref ha, .ref oa, .int hsn]))] ++ (cST G an f v0 v1 w ++ ([])))) := D_perm br2 hD
    replace hP : va_P G.1 vwCl (cST G an f v0 v1 w ++ (cST G tn ntf_36 nt0_36 nt1_36 ntw_36 ++ ([(fe, .inr (5, [.ref (an 0), .ref (tn 0), .ref sa, .ref ha, .ref oa, .int hsn]))] ++ ([])))) H := P_perm br2 hP
    replace hD : va_D A (cST G an f v0 v1 w ++ (cST G tn ntf_36 nt0_36 nt1_36 ntw_36 ++ ([(fe, .inr (5, [.ref (an 0), .ref (tn 0), .ref sa, .ref ha, .ref oa, .int hsn]))] ++ ([])))) := D_perm br2 hD
    replace hP : va_P G.1 vwCl ([(fe, .inr (5, [.ref (an 0), .ref (tn 0), .ref sa, .ref ha, .ref oa, .int hsn]))] ++ (cST G an f v0 v1 w ++ (cST G tn ntf_36 nt0_36 nt1_36 ntw_36 ++ ([])))) H := P_perm br2 hP
    replace hD : va_D A ([(fe, .inr (5, [.ref (an 0), .ref (tn 0), .ref sa, .ref ha, .ref oa, .int hsn]))] ++ (cST G an f v0 v1 w ++ (cST G tn ntf_36 nt0_36 nt1_36 ntw_36 ++ ([])))) := D_perm br2 hD
    replace hP : va_P G.1 vwCl (([(fe, .inr (5, [.ref (an 0), .ref (tn 0), .ref sa, .ref ha, .ref oa, .int hsn]))] ++ (cST G an f v0 v1 w ++ (cST G tn ntf_36 nt0_36 nt1_36 ntw_36 ++ ([])))) ++ []) H := by simpa only [List.append_assoc, List.nil_append] using hP
    replace hD : va_D A (([(fe, .inr (5, [.ref (an 0), .ref (tn 0), .ref sa, .ref ha, .ref oa, .int hsn]))] ++ (cST G an f v0 v1 w ++ (cST G tn ntf_36 nt0_36 nt1_36 ntw_36 ++ ([])))) ++ []) := by simpa only [List.append_assoc, List.nil_append] using hD
    have hPc := P_pre hP
    have hDc := D_pre hD
    refine mcall (st1 := [.int (nI (nCr 100 f)), .long (hO2 f h)]) (va_runV (As := []) (rest := [.long (hO2 f h)]) ⟨hx, hb, hml, hown, hts⟩ (c_X5_lasts_ok l G fe sa ha oa hsn an f v0 v1 w tn ntf_36 nt0_36 nt1_36 ntw_36 nst_36 hcp B (by omega) ho) (cwV 0 hts gX5_mixOutlook_X5_lasts rfl rfl rfl (by decide +kernel) ⟨Nat.le_of_ble_eq_true rfl, Nat.le_of_ble_eq_true rfl⟩) (PC.preV hE (va_recv hE.1 hP (ci := 5) (q0 := 0) rfl rfl) ⟨hPc, hDc.weaken (fun _ _ _ _ => trivial)⟩) rfl rfl hl.1 rfl (lv_room (Nat.le_of_ble_eq_true rfl)) dX5_mixOutlook_83 ⟨Nat.zero_le _, Nat.zero_le _⟩) hS (fun q _ h => inW_D hDc q h) (fun q h => inW_D hDc q h) rfl (fun H1 locs1 hB hz1 hk1 hS => ?_)
    obtain ⟨ntf_83, nt0_83, nt1_83, ntw_83, nst_83, hB⟩ := hB
    obtain ⟨hP1, hD1⟩ := hB
    obtain ⟨hP, hD⟩ := jnF (w1 := ([(fe, .inr (5, [.ref (an 0), .ref (tn 0), .ref sa, .ref ha, .ref oa, .int hsn]))] ++ (cST G an f v0 v1 w ++ (cST G tn ntf_83 nt0_83 nt1_83 ntw_83 ++ ([]))))) hP hD hk1 hP1 hD1
    generalize H1 = H at hP hS ⊢
    replace hP : va_P G.1 vwCl ([(fe, .inr (5, [.ref (an 0), .ref (tn 0), .ref sa, .ref ha, .ref oa, .int hsn]))] ++ (cST G an f v0 v1 w ++ (cST G tn ntf_83 nt0_83 nt1_83 ntw_83 ++ ([])))) H := by simpa only [List.append_assoc, List.nil_append] using hP
    replace hD : va_D A ([(fe, .inr (5, [.ref (an 0), .ref (tn 0), .ref sa, .ref ha, .ref oa, .int hsn]))] ++ (cST G an f v0 v1 w ++ (cST G tn ntf_83 nt0_83 nt1_83 ntw_83 ++ ([])))) := by simpa only [List.append_assoc, List.nil_append] using hD
    have hP : va_P G.1 vwCl ([(fe, .inr (5, [.ref (an 0), .ref (tn 0), .ref sa, .ref ha, .ref oa, .int hsn]))] ++ (cST G an f v0 v1 w ++ (cST G tn ntf_83 nt0_83 nt1_83 ntw_83 ++ ([])))) H := hP
    have hD : va_D A ([(fe, .inr (5, [.ref (an 0), .ref (tn 0), .ref sa, .ref ha, .ref oa, .int hsn]))] ++ (cST G an f v0 v1 w ++ (cST G tn ntf_83 nt0_83 nt1_83 ntw_83 ++ ([])))) := hD
    refine lv_i2l (v := (nI (nCr 100 f)).toInt64) hx hb dX5_mixOutlook_86 rfl ?_
    refine pcall (st1 := [.long (31 * (hO2 f h) + ((nI (nCr 100 f)).toInt64))]) (va_runS (As := [.long (hO2 f h), .long ((nI (nCr 100 f)).toInt64)]) (rest := []) ⟨hx, hb, hml, hown, hts⟩ (c_X5_mix l G (hO2 f h) ((nI (nCr 100 f)).toInt64)) (va_cwS 2 hts gX5_mixOutlook_X5_mix rfl rfl rfl (by decide +kernel) ⟨Nat.le_of_ble_eq_true rfl, Nat.le_of_ble_eq_true rfl⟩) (PC.preS hE P_nil) rfl rfl hl.1 rfl (lv_room (Nat.le_of_ble_eq_true rfl)) dX5_mixOutlook_87 ⟨Nat.zero_le _, Nat.zero_le _⟩) rfl ?_
    refine lv_lstore_n (lv' := [(3, .long (31 * (hO2 f h) + ((nI (nCr 100 f)).toInt64))), (5, .int (nI i)), (0, .ref fe), (1, .long h)]) hx hb dX5_mixOutlook_90 rfl hl (by decide) rfl (fun ls hl => ?_)
    refine lv_lload_n hx hb dX5_mixOutlook_91 rfl (lv_at hl 0 rfl) ?_
    refine lv_aload_n hx hb dX5_mixOutlook_92 rfl (lv_at hl 2 rfl) ?_
    replace hP : va_P G.1 vwCl (cST G tn ntf_83 nt0_83 nt1_83 ntw_83 ++ ([(fe, .inr (5, [.ref (an 0), .ref (tn 0), .ref sa, .ref ha, .ref oa, .int hsn]))] ++ (cST G an f v0 v1 w ++ ([])))) H := P_perm br2 hP
    replace hD : va_D A (cST G tn ntf_83 nt0_83 nt1_83 ntw_83 ++ ([(fe, .inr (5, [.ref (an 0), .ref (tn 0), .ref sa, .ref ha, .ref oa, .int hsn]))] ++ (cST G an f v0 v1 w ++ ([])))) := D_perm br2 hD
    replace hP : va_P G.1 vwCl (cST G an f v0 v1 w ++ (cST G tn ntf_83 nt0_83 nt1_83 ntw_83 ++ ([(fe, .inr (5, [.ref (an 0), .ref (tn 0), .ref sa, .ref ha, .ref oa, .int hsn]))] ++ ([])))) H := P_perm br2 hP
    replace hD : va_D A (cST G an f v0 v1 w ++ (cST G tn ntf_83 nt0_83 nt1_83 ntw_83 ++ ([(fe, .inr (5, [.ref (an 0), .ref (tn 0), .ref sa, .ref ha, .ref oa, .int hsn]))] ++ ([])))) := D_perm br2 hD
    replace hP : va_P G.1 vwCl ([(fe, .inr (5, [.ref (an 0), .ref (tn 0), .ref sa, .ref ha, .ref oa, .int hsn]))] ++ (cST G an f v0 v1 w ++ (cST G tn ntf_83 nt0_83 nt1_83 ntw_83 ++ ([])))) H := P_perm br2 hP
    replace hD : va_D A ([(fe, .inr (5, [.ref (an 0), .ref (tn 0), .ref sa, .ref ha, .ref oa, .int hsn]))] ++ (cST G an f v0 v1 w ++ (cST G tn ntf_83 nt0_83 nt1_83 ntw_83 ++ ([])))) := D_perm br2 hD
    replace hP : va_P G.1 vwCl (([(fe, .inr (5, [.ref (an 0), .ref (tn 0), .ref sa, .ref ha, .ref oa, .int hsn]))] ++ (cST G an f v0 v1 w ++ (cST G tn ntf_83 nt0_83 nt1_83 ntw_83 ++ ([])))) ++ []) H := by simpa only [List.append_assoc, List.nil_append] using hP
    replace hD : va_D A (([(fe, .inr (5, [.ref (an 0), .ref (tn 0), .ref sa, .ref ha, .ref oa, .int hsn]))] ++ (cST G an f v0 v1 w ++ (cST G tn ntf_83 nt0_83 nt1_83 ntw_83 ++ ([])))) ++ []) := by simpa only [List.append_assoc, List.nil_append] using hD
    have hPc := P_pre hP
    have hDc := D_pre hD
    refine mcall (st1 := [.int (fNd f), .long (31 * (hO2 f h) + ((nI (nCr 100 f)).toInt64))]) (va_runV (As := []) (rest := [.long (31 * (hO2 f h) + ((nI (nCr 100 f)).toInt64))]) ⟨hx, hb, hml, hown, hts⟩ (c_X5_needed_ok l G fe sa ha oa hsn an f v0 v1 w tn ntf_83 nt0_83 nt1_83 ntw_83 nst_83 hcp B (by omega) ho) (cwV 0 hts gX5_mixOutlook_X5_needed rfl rfl rfl (by decide +kernel) ⟨Nat.le_of_ble_eq_true rfl, Nat.le_of_ble_eq_true rfl⟩) (PC.preV hE (va_recv hE.1 hP (ci := 5) (q0 := 0) rfl rfl) ⟨hPc, hDc.weaken (fun _ _ _ _ => trivial)⟩) rfl rfl hl.1 rfl (lv_room (Nat.le_of_ble_eq_true rfl)) dX5_mixOutlook_93 ⟨Nat.zero_le _, Nat.zero_le _⟩) hS (fun q _ h => inW_D hDc q h) (fun q h => inW_D hDc q h) rfl (fun H1 locs1 hB hz1 hk1 hS => ?_)
    obtain ⟨ntf_93, nt0_93, nt1_93, ntw_93, nst_93, hB⟩ := hB
    obtain ⟨hP1, hD1⟩ := hB
    obtain ⟨hP, hD⟩ := jnF (w1 := ([(fe, .inr (5, [.ref (an 0), .ref (tn 0), .ref sa, .ref ha, .ref oa, .int hsn]))] ++ (cST G an f v0 v1 w ++ (cST G tn ntf_93 nt0_93 nt1_93 ntw_93 ++ ([]))))) hP hD hk1 hP1 hD1
    generalize H1 = H at hP hS ⊢
    replace hP : va_P G.1 vwCl ([(fe, .inr (5, [.ref (an 0), .ref (tn 0), .ref sa, .ref ha, .ref oa, .int hsn]))] ++ (cST G an f v0 v1 w ++ (cST G tn ntf_93 nt0_93 nt1_93 ntw_93 ++ ([])))) H := by simpa only [List.append_assoc, List.nil_append] using hP
    replace hD : va_D A ([(fe, .inr (5, [.ref (an 0), .ref (tn 0), .ref sa, .ref ha, .ref oa, .int hsn]))] ++ (cST G an f v0 v1 w ++ (cST G tn ntf_93 nt0_93 nt1_93 ntw_93 ++ ([])))) := by simpa only [List.append_assoc, List.nil_append] using hD
    have hP : va_P G.1 vwCl ([(fe, .inr (5, [.ref (an 0), .ref (tn 0), .ref sa, .ref ha, .ref oa, .int hsn]))] ++ (cST G an f v0 v1 w ++ (cST G tn ntf_93 nt0_93 nt1_93 ntw_93 ++ ([])))) H := hP
    have hD : va_D A ([(fe, .inr (5, [.ref (an 0), .ref (tn 0), .ref sa, .ref ha, .ref oa, .int hsn]))] ++ (cST G an f v0 v1 w ++ (cST G tn ntf_93 nt0_93 nt1_93 ntw_93 ++ ([])))) := hD
    refine lv_i2l (v := (fNd f).toInt64) hx hb dX5_mixOutlook_96 rfl ?_
    refine pcall (st1 := [.long (31 * (31 * (hO2 f h) + ((nI (nCr 100 f)).toInt64)) + ((fNd f).toInt64))]) (va_runS (As := [.long (31 * (hO2 f h) + ((nI (nCr 100 f)).toInt64)), .long ((fNd f).toInt64)]) (rest := []) ⟨hx, hb, hml, hown, hts⟩ (c_X5_mix l G (31 * (hO2 f h) + ((nI (nCr 100 f)).toInt64)) ((fNd f).toInt64)) (va_cwS 2 hts gX5_mixOutlook_X5_mix rfl rfl rfl (by decide +kernel) ⟨Nat.le_of_ble_eq_true rfl, Nat.le_of_ble_eq_true rfl⟩) (PC.preS hE P_nil) rfl rfl hl.1 rfl (lv_room (Nat.le_of_ble_eq_true rfl)) dX5_mixOutlook_97 ⟨Nat.zero_le _, Nat.zero_le _⟩) rfl ?_
    replace hP : va_P G.1 vwCl (cST G tn ntf_93 nt0_93 nt1_93 ntw_93 ++ ([(fe, .inr (5, [.ref (an 0), .ref (tn 0), .ref sa, .ref ha, .ref oa, .int hsn]))] ++ (cST G an f v0 v1 w ++ ([])))) H := P_perm br2 hP
    replace hD : va_D A (cST G tn ntf_93 nt0_93 nt1_93 ntw_93 ++ ([(fe, .inr (5, [.ref (an 0), .ref (tn 0), .ref sa, .ref ha, .ref oa, .int hsn]))] ++ (cST G an f v0 v1 w ++ ([])))) := D_perm br2 hD
    replace hP : va_P G.1 vwCl (cST G an f v0 v1 w ++ (cST G tn ntf_93 nt0_93 nt1_93 ntw_93 ++ ([(fe, .inr (5, [.ref (an 0), .ref (tn 0), .ref sa, .ref ha, .ref oa, .int hsn]))] ++ ([])))) H := P_perm br2 hP
    replace hD : va_D A (cST G an f v0 v1 w ++ (cST G tn ntf_93 nt0_93 nt1_93 ntw_93 ++ ([(fe, .inr (5, [.ref (an 0), .ref (tn 0), .ref sa, .ref ha, .ref oa, .int hsn]))] ++ ([])))) := D_perm br2 hD
    replace hP : va_P G.1 vwCl ([(fe, .inr (5, [.ref (an 0), .ref (tn 0), .ref sa, .ref ha, .ref oa, .int hsn]))] ++ (cST G an f v0 v1 w ++ (cST G tn ntf_93 nt0_93 nt1_93 ntw_93 ++ ([])))) H := P_perm br2 hP
    replace hD : va_D A ([(fe, .inr (5, [.ref (an 0), .ref (tn 0), .ref sa, .ref ha, .ref oa, .int hsn]))] ++ (cST G an f v0 v1 w ++ (cST G tn ntf_93 nt0_93 nt1_93 ntw_93 ++ ([])))) := D_perm br2 hD
    refine tS (st' := [.long (hO f h)]) (congrArg (fun z => [Value.long z]) (rfl)) ?_
    exact W.lret hx hb hr (fun t ht hW => ⟨rfl, by rw [ht]; exact ⟨_, _, _, _, nst_93, hP, hD⟩, hS.F ht⟩) hS.2.2 dX5_mixOutlook_100
  · skip
    refine lv_lload_n hx hb dX5_mixOutlook_63 rfl (lv_at hl 1 rfl) ?_
    refine lv_aload_n hx hb dX5_mixOutlook_64 rfl (lv_at hl 2 rfl) ?_
    refine lv_iload hx hb dX5_mixOutlook_65 (lv_at hl 0 rfl) ?_
    replace hP : va_P G.1 vwCl (cST G an f v0 v1 w ++ ([(fe, .inr (5, [.ref (an 0), .ref (tn 0), .ref sa, .ref ha, .ref oa, .int hsn]))] ++ (cST G tn ntf_36 nt0_36 nt1_36 ntw_36 ++ ([])))) H := P_perm br1 hP
    replace hD : va_D A (cST G an f v0 v1 w ++ ([(fe, .inr (5, [.ref (an 0), .ref (tn 0), .ref sa, .ref ha, .ref oa, .int hsn]))] ++ (cST G tn ntf_36 nt0_36 nt1_36 ntw_36 ++ ([])))) := D_perm br1 hD
    replace hP : va_P G.1 vwCl ([(fe, .inr (5, [.ref (an 0), .ref (tn 0), .ref sa, .ref ha, .ref oa, .int hsn]))] ++ (cST G an f v0 v1 w ++ (cST G tn ntf_36 nt0_36 nt1_36 ntw_36 ++ ([])))) H := P_perm br1 hP
    replace hD : va_D A ([(fe, .inr (5, [.ref (an 0), .ref (tn 0), .ref sa, .ref ha, .ref oa, .int hsn]))] ++ (cST G an f v0 v1 w ++ (cST G tn ntf_36 nt0_36 nt1_36 ntw_36 ++ ([])))) := D_perm br1 hD
    have hPc : va_P G.1 vwCl ([(fe, .inr (5, [.ref (an 0), .ref (tn 0), .ref sa, .ref ha, .ref oa, .int hsn]))] ++ (cST G an f v0 v1 w ++ ([]))) H := P_pre (w := ([(fe, .inr (5, [.ref (an 0), .ref (tn 0), .ref sa, .ref ha, .ref oa, .int hsn]))] ++ (cST G an f v0 v1 w ++ ([])))) (r := (cST G tn ntf_36 nt0_36 nt1_36 ntw_36 ++ ([]))) (by simpa only [List.append_assoc, List.nil_append, List.append_nil] using hP)
    refine pcall (st1 := [.int (fLs f i), .long (mxL (fun k => (fLs f (1 + k)).toInt64) (hO1 f h) (i - 1))]) (va_runV (As := [.int (nI i)]) (rest := [.long (mxL (fun k => (fLs f (1 + k)).toInt64) (hO1 f h) (i - 1))]) ⟨hx, hb, hml, hown, hts⟩ (c_X5_leastList_ok l G fe (tn 0) sa ha oa hsn an f v0 v1 w hcp B (by omega) ho i (by omega)) (cwV 1 hts gX5_mixOutlook_X5_leastList rfl rfl rfl (by decide +kernel) ⟨Nat.le_of_ble_eq_true rfl, Nat.le_of_ble_eq_true rfl⟩) (PC.preV hE (va_recv hE.1 hP (ci := 5) (q0 := 0) rfl rfl) hPc) rfl rfl hl.1 rfl (lv_room (Nat.le_of_ble_eq_true rfl)) dX5_mixOutlook_67 ⟨Nat.zero_le _, Nat.zero_le _⟩) rfl ?_
    refine lv_i2l (v := (fLs f i).toInt64) hx hb dX5_mixOutlook_70 rfl ?_
    refine pcall (st1 := [.long (31 * (mxL (fun k => (fLs f (1 + k)).toInt64) (hO1 f h) (i - 1)) + ((fLs f i).toInt64))]) (va_runS (As := [.long (mxL (fun k => (fLs f (1 + k)).toInt64) (hO1 f h) (i - 1)), .long ((fLs f i).toInt64)]) (rest := []) ⟨hx, hb, hml, hown, hts⟩ (c_X5_mix l G (mxL (fun k => (fLs f (1 + k)).toInt64) (hO1 f h) (i - 1)) ((fLs f i).toInt64)) (va_cwS 2 hts gX5_mixOutlook_X5_mix rfl rfl rfl (by decide +kernel) ⟨Nat.le_of_ble_eq_true rfl, Nat.le_of_ble_eq_true rfl⟩) (PC.preS hE P_nil) rfl rfl hl.1 rfl (lv_room (Nat.le_of_ble_eq_true rfl)) dX5_mixOutlook_71 ⟨Nat.zero_le _, Nat.zero_le _⟩) rfl ?_
    refine tS (st' := [.long (mxL (fun k => (fLs f (1 + k)).toInt64) (hO1 f h) (i + 1 - 1))]) (congrArg (fun z => Value.long z :: []) (mx_ls i1)) ?_
    refine lv_lstore_n (lv' := [(3, .long (mxL (fun k => (fLs f (1 + k)).toInt64) (hO1 f h) (i + 1 - 1))), (5, .int (nI i)), (0, .ref fe), (1, .long h)]) hx hb dX5_mixOutlook_74 rfl hl (by decide) rfl (fun ls hl => ?_)
    refine lv_iinc (v := nI (i + 1)) (lv' := [(5, .int (nI (i + 1))), (3, .long (mxL (fun k => (fLs f (1 + k)).toInt64) (hO1 f h) (i + 1 - 1))), (0, .ref fe), (1, .long h)]) hx hb dX5_mixOutlook_75 hl (k := 1) rfl (nI_inc1 _) (by decide) rfl (fun ls hl => ?_)
    refine lv_goto (tgt := 57) hx hb dX5_mixOutlook_78 (by decide) ?_
    exact ih57 (i + 1) _ (by omega) (lv_sub hl [0, 1, 2, 3] rfl) (by (try dsimp only); omega)
set_option maxHeartbeats 4000000 in
set_option maxRecDepth 100000 in
theorem c_X5_mixBuffer (l : Launch) (G : eG) (fe ta sa ha : Nat) (hsn : Int32) (an : Nat → Nat) (oa co : Nat) (len rt : Nat) (en : Option Nat) (tx : Nat → Int32) (htx : Tx tx len) (h : Int64) : Met l yX5_mixBuffer wsX5_mixBuffer ({ frames := 2, cells := 0, slots := 0, locals := 42 }) (PC [.ref fe, .long h] G (fun H => va_P G.1 vwCl ([(fe, .inr (5, [.ref (an 0), .ref ta, .ref sa, .ref ha, .ref oa, .int hsn]))] ++ ([(oa, .inr (2, [.ref co, .int (nI len), .int (nI rt), .int (ov en)])), (co, .inl (G.2.1, 60, .inl tx))] ++ ([]))) H)) (PQ (some (.long (mxL (fun k => (tx k).toInt64) (31 * h + (nI len).toInt64) len)))) 0 0 noA := by
  refine ofB (cc := cX5_mixBuffer) (maxL := 6) (ret := (some .long)) (by decide) rfl (Nat.le_of_ble_eq_true rfl) ?_
  intro p e s m below meth c hx hb hr hlocks hml hown hin hts hE hI ls hl
  replace hown : s.vm.findClass RX5 = some m.cls := hown
  have hl : lv_has ls 6 [(0, .ref fe), (1, .long h)] := hl
  have hP : va_P G.1 vwCl ([(fe, .inr (5, [.ref (an 0), .ref ta, .ref sa, .ref ha, .ref oa, .int hsn]))] ++ ([(oa, .inr (2, [.ref co, .int (nI len), .int (nI rt), .int (ov en)])), (co, .inl (G.2.1, 60, .inl tx))] ++ ([]))) s.heap := hI
  have w_0 : ∀ w ∈ u_ws RX5 TX5 6, w ∈ wsX5_mixBuffer := by decide +kernel
  have w_1 := hts (.fieldLink RX5 32 "CableFerry" "orders" "LCableFerry$Orders;") (by decide +kernel)
  have hlen := htx.1
  refine lv_lload_n hx hb dX5_mixBuffer_0 rfl (lv_at hl 1 rfl) ?_
  refine lv_aload_n hx hb dX5_mixBuffer_1 rfl (lv_at hl 0 rfl) ?_
  refine va_get (D := G.1) (ci := 5) (v := .ref oa) (C := RX5) (T := TX5) (N := 6) hx hb hts w_0 hown hE.1 hP 0 rfl rfl 4 (by decide) w_1 (fun _ h9 => h9) rfl dX5_mixBuffer_2 ?_
  replace hP : va_P G.1 vwCl ([(oa, .inr (2, [.ref co, .int (nI len), .int (nI rt), .int (ov en)])), (co, .inl (G.2.1, 60, .inl tx))] ++ ([(fe, .inr (5, [.ref (an 0), .ref ta, .ref sa, .ref ha, .ref oa, .int hsn]))] ++ ([]))) s.heap := P_perm br1 hP
  refine pcall (st1 := [.int (nI len), .long h]) (va_runV (As := []) (rest := [.long h]) ⟨hx, hb, hml, hown, hts⟩ (c_X2_length l G oa co len rt en tx) (cwV 0 hts gX5_mixBuffer_X2_length rfl rfl rfl (by decide +kernel) ⟨Nat.le_of_ble_eq_true rfl, Nat.le_of_ble_eq_true rfl⟩) (PC.preV hE (va_recv hE.1 hP (ci := 2) (q0 := 0) rfl rfl) (hP.sub [0, 1] rfl)) rfl rfl hl.1 rfl (lv_room (Nat.le_of_ble_eq_true rfl)) dX5_mixBuffer_5 ⟨Nat.zero_le _, Nat.zero_le _⟩) rfl ?_
  refine lv_i2l (v := (nI len).toInt64) hx hb dX5_mixBuffer_8 rfl ?_
  refine pcall (st1 := [.long (31 * h + ((nI len).toInt64))]) (va_runS (As := [.long h, .long ((nI len).toInt64)]) (rest := []) ⟨hx, hb, hml, hown, hts⟩ (c_X5_mix l G h ((nI len).toInt64)) (va_cwS 2 hts gX5_mixBuffer_X5_mix rfl rfl rfl (by decide +kernel) ⟨Nat.le_of_ble_eq_true rfl, Nat.le_of_ble_eq_true rfl⟩) (PC.preS hE P_nil) rfl rfl hl.1 rfl (lv_room (Nat.le_of_ble_eq_true rfl)) dX5_mixBuffer_9 ⟨Nat.zero_le _, Nat.zero_le _⟩) rfl ?_
  refine lv_lstore_n (lv' := [(3, .long (31 * h + ((nI len).toInt64))), (0, .ref fe), (1, .long h)]) hx hb dX5_mixBuffer_12 rfl hl (by decide) rfl (fun ls hl => ?_)
  refine lv_iconst (v := nI 0) hx hb dX5_mixBuffer_13 (by decide +kernel) ?_
  refine lv_istore (lv' := [(5, .int (nI 0)), (3, .long (31 * h + ((nI len).toInt64))), (0, .ref fe), (1, .long h)]) hx hb dX5_mixBuffer_14 hl (by decide) rfl (fun ls hl => ?_)
  refine loopL (σ := Nat) (n := 6) (pc1 := 16) (fun i => len - i) (fun i => i ≤ len) (fun i => [(5, .int (nI i)), (3, .long (mxL (fun k => (tx k).toInt64) (31 * h + (nI len).toInt64) i)), (0, .ref fe), (1, .long h)]) (fun i => []) ?_ (0) _ (Nat.zero_le _) (lv_sub hl [0, 1, 2, 3] rfl)
  rintro i ls hI hl ih16
  have hl : lv_has ls 6 [(5, .int (nI i)), (3, .long (mxL (fun k => (tx k).toInt64) (31 * h + (nI len).toInt64) i)), (0, .ref fe), (1, .long h)] := hl
  replace hI : i ≤ len := hI
  refine tS (st' := []) rfl ?_
  refine lv_iload hx hb dX5_mixBuffer_16 (lv_at hl 0 rfl) ?_
  refine lv_aload_n hx hb dX5_mixBuffer_18 rfl (lv_at hl 2 rfl) ?_
  replace hP : va_P G.1 vwCl ([(fe, .inr (5, [.ref (an 0), .ref ta, .ref sa, .ref ha, .ref oa, .int hsn]))] ++ ([(oa, .inr (2, [.ref co, .int (nI len), .int (nI rt), .int (ov en)])), (co, .inl (G.2.1, 60, .inl tx))] ++ ([]))) s.heap := P_perm br1 hP
  refine va_get (D := G.1) (ci := 5) (v := .ref oa) (C := RX5) (T := TX5) (N := 6) hx hb hts w_0 hown hE.1 hP 0 rfl rfl 4 (by decide) w_1 (fun _ h9 => h9) rfl dX5_mixBuffer_19 ?_
  replace hP : va_P G.1 vwCl ([(oa, .inr (2, [.ref co, .int (nI len), .int (nI rt), .int (ov en)])), (co, .inl (G.2.1, 60, .inl tx))] ++ ([(fe, .inr (5, [.ref (an 0), .ref ta, .ref sa, .ref ha, .ref oa, .int hsn]))] ++ ([]))) s.heap := P_perm br1 hP
  refine pcall (st1 := [.int (nI len), .int (nI i)]) (va_runV (As := []) (rest := [.int (nI i)]) ⟨hx, hb, hml, hown, hts⟩ (c_X2_length l G oa co len rt en tx) (cwV 0 hts gX5_mixBuffer_X2_length rfl rfl rfl (by decide +kernel) ⟨Nat.le_of_ble_eq_true rfl, Nat.le_of_ble_eq_true rfl⟩) (PC.preV hE (va_recv hE.1 hP (ci := 2) (q0 := 0) rfl rfl) (hP.sub [0, 1] rfl)) rfl rfl hl.1 rfl (lv_room (Nat.le_of_ble_eq_true rfl)) dX5_mixBuffer_22 ⟨Nat.zero_le _, Nat.zero_le _⟩) rfl ?_
  refine icmp_geN (tgt := 49) hx hb (by omega) (by omega) dX5_mixBuffer_25 (by decide) (fun c25 => ?_) (fun c25 => ?_)
  · skip
    have e9 : i = len := by omega
    rw [e9] at hl
    have hl : lv_has ls 6 [(5, .int (nI len)), (3, .long (mxL (fun k => (tx k).toInt64) (31 * h + (nI len).toInt64) len)), (0, .ref fe), (1, .long h)] := hl
    refine lv_lload_n hx hb dX5_mixBuffer_49 rfl (lv_at hl 1 rfl) ?_
    exact W.lret hx hb hr (fun t ht hW => ⟨rfl, ht⟩) (fun _ h => nomatch h) dX5_mixBuffer_50
  · skip
    refine lv_lload_n hx hb dX5_mixBuffer_28 rfl (lv_at hl 1 rfl) ?_
    refine lv_aload_n hx hb dX5_mixBuffer_29 rfl (lv_at hl 2 rfl) ?_
    replace hP : va_P G.1 vwCl ([(fe, .inr (5, [.ref (an 0), .ref ta, .ref sa, .ref ha, .ref oa, .int hsn]))] ++ ([(oa, .inr (2, [.ref co, .int (nI len), .int (nI rt), .int (ov en)])), (co, .inl (G.2.1, 60, .inl tx))] ++ ([]))) s.heap := P_perm br1 hP
    refine va_get (D := G.1) (ci := 5) (v := .ref oa) (C := RX5) (T := TX5) (N := 6) hx hb hts w_0 hown hE.1 hP 0 rfl rfl 4 (by decide) w_1 (fun _ h9 => h9) rfl dX5_mixBuffer_30 ?_
    refine lv_iload hx hb dX5_mixBuffer_33 (lv_at hl 0 rfl) ?_
    replace hP : va_P G.1 vwCl ([(oa, .inr (2, [.ref co, .int (nI len), .int (nI rt), .int (ov en)])), (co, .inl (G.2.1, 60, .inl tx))] ++ ([(fe, .inr (5, [.ref (an 0), .ref ta, .ref sa, .ref ha, .ref oa, .int hsn]))] ++ ([]))) s.heap := P_perm br1 hP
    refine pcall (st1 := [.int (cdA tx len i), .long (mxL (fun k => (tx k).toInt64) (31 * h + (nI len).toInt64) i)]) (va_runV (As := [.int (nI i)]) (rest := [.long (mxL (fun k => (tx k).toInt64) (31 * h + (nI len).toInt64) i)]) ⟨hx, hb, hml, hown, hts⟩ (c_X2_codeAt l G oa co len rt en tx htx i (by omega)) (cwV 1 hts gX5_mixBuffer_X2_codeAt rfl rfl rfl (by decide +kernel) ⟨Nat.le_of_ble_eq_true rfl, Nat.le_of_ble_eq_true rfl⟩) (PC.preV hE (va_recv hE.1 hP (ci := 2) (q0 := 0) rfl rfl) (hP.sub [0, 1] rfl)) rfl rfl hl.1 rfl (lv_room (Nat.le_of_ble_eq_true rfl)) dX5_mixBuffer_35 ⟨Nat.zero_le _, Nat.zero_le _⟩) rfl ?_
    refine tI (y := tx i) (by unfold cdA; rw [if_pos (by omega)]) ?_
    refine lv_i2l (v := (tx i).toInt64) hx hb dX5_mixBuffer_38 rfl ?_
    refine pcall (st1 := [.long (31 * (mxL (fun k => (tx k).toInt64) (31 * h + (nI len).toInt64) i) + ((tx i).toInt64))]) (va_runS (As := [.long (mxL (fun k => (tx k).toInt64) (31 * h + (nI len).toInt64) i), .long ((tx i).toInt64)]) (rest := []) ⟨hx, hb, hml, hown, hts⟩ (c_X5_mix l G (mxL (fun k => (tx k).toInt64) (31 * h + (nI len).toInt64) i) ((tx i).toInt64)) (va_cwS 2 hts gX5_mixBuffer_X5_mix rfl rfl rfl (by decide +kernel) ⟨Nat.le_of_ble_eq_true rfl, Nat.le_of_ble_eq_true rfl⟩) (PC.preS hE P_nil) rfl rfl hl.1 rfl (lv_room (Nat.le_of_ble_eq_true rfl)) dX5_mixBuffer_39 ⟨Nat.zero_le _, Nat.zero_le _⟩) rfl ?_
    refine lv_lstore_n (lv' := [(3, .long (31 * (mxL (fun k => (tx k).toInt64) (31 * h + (nI len).toInt64) i) + ((tx i).toInt64))), (5, .int (nI i)), (0, .ref fe), (1, .long h)]) hx hb dX5_mixBuffer_42 rfl hl (by decide) rfl (fun ls hl => ?_)
    refine lv_iinc (v := nI (i + 1)) (lv' := [(5, .int (nI (i + 1))), (3, .long (31 * (mxL (fun k => (tx k).toInt64) (31 * h + (nI len).toInt64) i) + ((tx i).toInt64))), (0, .ref fe), (1, .long h)]) hx hb dX5_mixBuffer_43 hl (k := 1) rfl (nI_inc1 _) (by decide) rfl (fun ls hl => ?_)
    refine lv_goto (tgt := 16) hx hb dX5_mixBuffer_46 (by decide) ?_
    exact ih16 (i + 1) _ (by omega) (lv_sub hl [0, 1, 2, 3] rfl) (by (try dsimp only); omega)
