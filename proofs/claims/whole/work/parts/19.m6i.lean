set_option maxHeartbeats 4000000 in
set_option maxRecDepth 100000 in
theorem c_X6_canDo_a (l : Launch) (G : eG) (ob a1 a2 a3 a4 a5 : Nat) (f th pa sn tx : Nat → Int32) (n len spot : Nat) (kp thr bad lt one two wh : Int32) (hash : Int64) (B : Nat) (hB : B < 800000000) (ho : Okf B f) (x y : Nat) (hx2 : x < 2) : Met l yX6_canDo wsX6_canDo ({ frames := 6, cells := 0, slots := 0, locals := 300 }) (PC [.ref ob] G (fun H => va_P G.1 vwCl [(ob, .inr (6, [.ref a1, .ref a2, .ref a3, .int (nI n), .ref a4, .int kp, .ref a5, .int (nI len), .int thr, .int (nI spot), .int bad, .int (nI 97), .int (nI x), .int (nI y), .int wh, .long hash])), (a1, .inl (G.2.1, 97, .inl f)), (a2, .inl (G.2.1, 97, .inl th)), (a3, .inl (G.2.1, 582, .inl pa)), (a4, .inl (G.2.1, 97, .inl sn)), (a5, .inl (G.2.1, 60, .inl tx))] H ∧ va_D (fun _ => True) [(ob, .inr (6, [.ref a1, .ref a2, .ref a3, .int (nI n), .ref a4, .int kp, .ref a5, .int (nI len), .int thr, .int (nI spot), .int bad, .int (nI 97), .int (nI x), .int (nI y), .int wh, .long hash])), (a1, .inl (G.2.1, 97, .inl f)), (a2, .inl (G.2.1, 97, .inl th)), (a3, .inl (G.2.1, 582, .inl pa)), (a4, .inl (G.2.1, 97, .inl sn)), (a5, .inl (G.2.1, 60, .inl tx))])) (MV (some (.int (b2 (cnD f 97 x = true)))) (fun H => va_P G.1 vwCl [(ob, .inr (6, [.ref a1, .ref a2, .ref a3, .int (nI n), .ref a4, .int kp, .ref a5, .int (nI len), .int thr, .int (nI spot), .int bad, .int (nI 97), .int (nI x), .int (nI y), .int wh, .long hash])), (a1, .inl (G.2.1, 97, .inl (exD f 97 x y))), (a2, .inl (G.2.1, 97, .inl th)), (a3, .inl (G.2.1, 582, .inl pa)), (a4, .inl (G.2.1, 97, .inl sn)), (a5, .inl (G.2.1, 60, .inl tx))] H ∧ va_D (inW [(ob, .inr (6, [.ref a1, .ref a2, .ref a3, .int (nI n), .ref a4, .int kp, .ref a5, .int (nI len), .int thr, .int (nI spot), .int bad, .int (nI 97), .int (nI x), .int (nI y), .int wh, .long hash])), (a1, .inl (G.2.1, 97, .inl f)), (a2, .inl (G.2.1, 97, .inl th)), (a3, .inl (G.2.1, 582, .inl pa)), (a4, .inl (G.2.1, 97, .inl sn)), (a5, .inl (G.2.1, 60, .inl tx))]) [(ob, .inr (6, [.ref a1, .ref a2, .ref a3, .int (nI n), .ref a4, .int kp, .ref a5, .int (nI len), .int thr, .int (nI spot), .int bad, .int (nI 97), .int (nI x), .int (nI y), .int wh, .long hash])), (a1, .inl (G.2.1, 97, .inl (exD f 97 x y))), (a2, .inl (G.2.1, 97, .inl th)), (a3, .inl (G.2.1, 582, .inl pa)), (a4, .inl (G.2.1, 97, .inl sn)), (a5, .inl (G.2.1, 60, .inl tx))]) (inW [(ob, .inr (6, [.ref a1, .ref a2, .ref a3, .int (nI n), .ref a4, .int kp, .ref a5, .int (nI len), .int thr, .int (nI spot), .int bad, .int (nI 97), .int (nI x), .int (nI y), .int wh, .long hash])), (a1, .inl (G.2.1, 97, .inl f)), (a2, .inl (G.2.1, 97, .inl th)), (a3, .inl (G.2.1, 582, .inl pa)), (a4, .inl (G.2.1, 97, .inl sn)), (a5, .inl (G.2.1, 60, .inl tx))])) 0 0 (inW [(ob, .inr (6, [.ref a1, .ref a2, .ref a3, .int (nI n), .ref a4, .int kp, .ref a5, .int (nI len), .int thr, .int (nI spot), .int bad, .int (nI 97), .int (nI x), .int (nI y), .int wh, .long hash])), (a1, .inl (G.2.1, 97, .inl f)), (a2, .inl (G.2.1, 97, .inl th)), (a3, .inl (G.2.1, 582, .inl pa)), (a4, .inl (G.2.1, 97, .inl sn)), (a5, .inl (G.2.1, 60, .inl tx))]) := by
  refine ofB (cc := cX6_canDo) (maxL := 3) (ret := (some .boolean)) (by decide) rfl (Nat.le_of_ble_eq_true rfl) ?_
  intro p e s m below meth c hx hb hr hlocks hml hown hin hts hE hI ls hl
  replace hown : s.vm.findClass RX6 = some m.cls := hown
  have hl : lv_has ls 3 [(0, .ref ob)] := hl
  obtain ⟨hP, hD0⟩ := hI
  have hD : va_D (inW [(ob, .inr (6, [.ref a1, .ref a2, .ref a3, .int (nI n), .ref a4, .int kp, .ref a5, .int (nI len), .int thr, .int (nI spot), .int bad, .int (nI 97), .int (nI x), .int (nI y), .int wh, .long hash])), (a1, .inl (G.2.1, 97, .inl f)), (a2, .inl (G.2.1, 97, .inl th)), (a3, .inl (G.2.1, 582, .inl pa)), (a4, .inl (G.2.1, 97, .inl sn)), (a5, .inl (G.2.1, 60, .inl tx))]) [(ob, .inr (6, [.ref a1, .ref a2, .ref a3, .int (nI n), .ref a4, .int kp, .ref a5, .int (nI len), .int thr, .int (nI spot), .int bad, .int (nI 97), .int (nI x), .int (nI y), .int wh, .long hash])), (a1, .inl (G.2.1, 97, .inl f)), (a2, .inl (G.2.1, 97, .inl th)), (a3, .inl (G.2.1, 582, .inl pa)), (a4, .inl (G.2.1, 97, .inl sn)), (a5, .inl (G.2.1, 60, .inl tx))] := D_self hD0
  obtain ⟨A, hAe⟩ : ∃ A, A = inW [(ob, .inr (6, [.ref a1, .ref a2, .ref a3, .int (nI n), .ref a4, .int kp, .ref a5, .int (nI len), .int thr, .int (nI spot), .int bad, .int (nI 97), .int (nI x), .int (nI y), .int wh, .long hash])), (a1, .inl (G.2.1, 97, .inl f)), (a2, .inl (G.2.1, 97, .inl th)), (a3, .inl (G.2.1, 582, .inl pa)), (a4, .inl (G.2.1, 97, .inl sn)), (a5, .inl (G.2.1, 60, .inl tx))] := ⟨_, rfl⟩
  rw [← hAe] at hD ⊢
  have hS : va_S A s.heap s.heap [] := va_S.rf
  obtain ⟨H, hHe⟩ : ∃ H, H = s.heap := ⟨_, rfl⟩
  obtain ⟨locs, hle⟩ : ∃ q : List Loc, q = [] := ⟨_, rfl⟩
  rw [← hle] at hS ⊢
  have hP : va_P G.1 vwCl [(ob, .inr (6, [.ref a1, .ref a2, .ref a3, .int (nI n), .ref a4, .int kp, .ref a5, .int (nI len), .int thr, .int (nI spot), .int bad, .int (nI 97), .int (nI x), .int (nI y), .int wh, .long hash])), (a1, .inl (G.2.1, 97, .inl f)), (a2, .inl (G.2.1, 97, .inl th)), (a3, .inl (G.2.1, 582, .inl pa)), (a4, .inl (G.2.1, 97, .inl sn)), (a5, .inl (G.2.1, 60, .inl tx))] H := by rw [hHe]; exact hP
  replace hS : va_S A s.heap H locs := by rw [hHe]; exact hS
  refine tH hHe ?_
  have w_0 : ∀ w ∈ u_ws RX6 TX6 16, w ∈ wsX6_canDo := by decide +kernel
  have w_1 := hts (.fieldLink RX6 136 "CableFerryModel" "letter" "I") (by decide +kernel)
  have w_2 := hts (.fieldLink RX6 7 "CableFerryModel" "now" "[I") (by decide +kernel)
  have w_3 := hts (.fieldLink RX6 139 "CableFerryModel" "one" "I") (by decide +kernel)
  have w_4 := hts (.fieldLink RX6 142 "CableFerryModel" "two" "I") (by decide +kernel)
  have hs := okf_shp (by omega) ho
  obtain ⟨hq1, hq2⟩ := hs.2.1 x hx2
  refine lv_aload_n hx hb dX6_canDo_0 rfl (lv_at hl 0 rfl) ?_
  refine va_get (D := G.1) (ci := 6) (v := .int (nI 97)) (C := RX6) (T := TX6) (N := 16) hx hb hts w_0 hown hE.1 hP 0 rfl rfl 11 (by decide) w_1 (fun _ h9 => h9) rfl dX6_canDo_1 ?_
  refine lv_bipush (v := nI 97) hx hb dX6_canDo_4 (by decide +kernel) ?_
  refine icmp_neN (tgt := 33) hx hb (by omega) (by omega) dX6_canDo_6 (by decide) (fun c6 => ?_) (fun c6 => ?_)
  · skip
    omega
  · skip
    refine lv_aload_n hx hb dX6_canDo_9 rfl (lv_at hl 0 rfl) ?_
    refine va_get (D := G.1) (ci := 6) (v := .ref a1) (C := RX6) (T := TX6) (N := 16) hx hb hts w_0 hown hE.1 hP 0 rfl rfl 0 (by decide) w_2 (fun _ h9 => h9) rfl dX6_canDo_10 ?_
    refine lv_aload_n hx hb dX6_canDo_13 rfl (lv_at hl 0 rfl) ?_
    refine va_get (D := G.1) (ci := 6) (v := .int (nI x)) (C := RX6) (T := TX6) (N := 16) hx hb hts w_0 hown hE.1 hP 0 rfl rfl 12 (by decide) w_3 (fun _ h9 => h9) rfl dX6_canDo_14 ?_
    refine pcall (st1 := [.int (f (57 + (11 * x)))]) (va_runS (As := [.ref a1, .int (nI x)]) (rest := []) ⟨hx, hb, hml, hown, hts⟩ (c_X6_waitingAt l G a1 f x (by omega)) (va_cwS 2 hts gX6_canDo_X6_waitingAt rfl rfl rfl (by decide +kernel) ⟨Nat.le_of_ble_eq_true rfl, Nat.le_of_ble_eq_true rfl⟩) (PC.preS hE (hP.sub [1] rfl)) rfl rfl hl.1 rfl (lv_room (Nat.le_of_ble_eq_true rfl)) dX6_canDo_17 ⟨Nat.zero_le _, Nat.zero_le _⟩) rfl ?_
    refine tI (y := nI (nn f (57 + (11 * x)))) (hq1) ?_
    refine lv_bipush (v := nI 10) hx hb dX6_canDo_20 (by decide +kernel) ?_
    refine cutL (σ := Int32) (n := 3) (pc1 := 108) (fun r => r = b2 (cnD f 97 x = true)) (fun r => [(0, .ref ob)]) (fun r => [.int r]) ?_ (fun J108 => ?_)
    · rintro r ls hI hl
      replace hI : r = b2 (cnD f 97 x = true) := hI
      subst hI
      have hl : lv_has ls 3 [(0, .ref ob)] := hl
      refine tS (st' := [.int (b2 (cnD f 97 x = true))]) rfl ?_
      refine lv_istore_n (lv' := [(1, .int (b2 (cnD f 97 x = true))), (0, .ref ob)]) hx hb dX6_canDo_108 rfl hl (by decide) rfl (fun ls hl => ?_)
      refine lv_iload_n hx hb dX6_canDo_109 rfl (lv_at hl 0 rfl) ?_
      refine lv_if_ne (tgt := 117) hx hb dX6_canDo_110 (by decide) (fun c110 => ?_) (fun c110 => ?_)
      · skip
        have hb9 : b2 (cnD f 97 x = true) = nI 1 := b2_t (b2_1.mp c110)
        rw [hb9] at hl
        have hl : lv_has ls 3 [(1, .int (nI 1)), (0, .ref ob)] := hl
        refine lv_aload_n hx hb dX6_canDo_117 rfl (lv_at hl 1 rfl) ?_
        refine va_get (D := G.1) (ci := 6) (v := .int (nI 97)) (C := RX6) (T := TX6) (N := 16) hx hb hts w_0 hown hE.1 hP 0 rfl rfl 11 (by decide) w_1 (fun _ h9 => h9) rfl dX6_canDo_118 ?_
        refine lv_bipush (v := nI 97) hx hb dX6_canDo_121 (by decide +kernel) ?_
        refine icmp_neN (tgt := 141) hx hb (by omega) (by omega) dX6_canDo_123 (by decide) (fun c123 => ?_) (fun c123 => ?_)
        · skip
          omega
        · skip
          refine lv_aload_n hx hb dX6_canDo_126 rfl (lv_at hl 1 rfl) ?_
          refine lv_aload_n hx hb dX6_canDo_127 rfl (lv_at hl 1 rfl) ?_
          refine va_get (D := G.1) (ci := 6) (v := .int (nI x)) (C := RX6) (T := TX6) (N := 16) hx hb hts w_0 hown hE.1 hP 0 rfl rfl 12 (by decide) w_3 (fun _ h9 => h9) rfl dX6_canDo_128 ?_
          refine lv_aload_n hx hb dX6_canDo_131 rfl (lv_at hl 1 rfl) ?_
          refine va_get (D := G.1) (ci := 6) (v := .int (nI y)) (C := RX6) (T := TX6) (N := 16) hx hb hts w_0 hown hE.1 hP 0 rfl rfl 13 (by decide) w_4 (fun _ h9 => h9) rfl dX6_canDo_132 ?_
          have hPc := hP.sub (ws' := [(ob, .inr (6, [.ref a1, .ref a2, .ref a3, .int (nI n), .ref a4, .int kp, .ref a5, .int (nI len), .int thr, .int (nI spot), .int bad, .int (nI 97), .int (nI x), .int (nI y), .int wh, .long hash])), (a1, .inl (G.2.1, 97, .inl f)), (a2, .inl (G.2.1, 97, .inl th)), (a3, .inl (G.2.1, 582, .inl pa)), (a4, .inl (G.2.1, 97, .inl sn)), (a5, .inl (G.2.1, 60, .inl tx))]) [0, 1, 2, 3, 4, 5] rfl
          have hDc := hD.sub (ws' := [(ob, .inr (6, [.ref a1, .ref a2, .ref a3, .int (nI n), .ref a4, .int kp, .ref a5, .int (nI len), .int thr, .int (nI spot), .int bad, .int (nI 97), .int (nI x), .int (nI y), .int wh, .long hash])), (a1, .inl (G.2.1, 97, .inl f)), (a2, .inl (G.2.1, 97, .inl th)), (a3, .inl (G.2.1, 582, .inl pa)), (a4, .inl (G.2.1, 97, .inl sn)), (a5, .inl (G.2.1, 60, .inl tx))]) [0, 1, 2, 3, 4, 5] (by decide) rfl
          refine mcall (st1 := [.int (f (57 + (11 * x)) + nI 1)]) (va_runV (As := [.int (nI x), .int (nI y)]) (rest := []) ⟨hx, hb, hml, hown, hts⟩ (c_X6_arrives l G ob a1 a2 a3 a4 a5 f th pa sn tx n len spot kp thr bad (nI 97) (nI x) (nI y) wh hash hs x (by omega) (by simpa [cnD] using b2_1.mp c110) (nI y)) (cwV 2 hts gX6_canDo_X6_arrives rfl rfl rfl (by decide +kernel) ⟨Nat.le_of_ble_eq_true rfl, Nat.le_of_ble_eq_true rfl⟩) (PC.preV hE (va_recv hE.1 hP (ci := 6) (q0 := 0) rfl rfl) ⟨hPc, hDc.weaken (fun _ _ _ _ => trivial)⟩) rfl rfl hl.1 rfl (lv_room (Nat.le_of_ble_eq_true rfl)) dX6_canDo_135 ⟨Nat.zero_le _, Nat.zero_le _⟩) hS (fun q _ h => inW_D hDc q h) (fun q h => inW_D hDc q h) rfl (fun H1 locs1 hB hz1 hk1 hS => ?_)
          obtain ⟨hP1, hD1⟩ := hB
          obtain ⟨hP, hD⟩ := jnW (wr := []) (w1 := [(ob, .inr (6, [.ref a1, .ref a2, .ref a3, .int (nI n), .ref a4, .int kp, .ref a5, .int (nI len), .int thr, .int (nI spot), .int bad, .int (nI 97), .int (nI x), .int (nI y), .int wh, .long hash])), (a1, .inl (G.2.1, 97, .inl (fArr f x (nI y)))), (a2, .inl (G.2.1, 97, .inl th)), (a3, .inl (G.2.1, 582, .inl pa)), (a4, .inl (G.2.1, 97, .inl sn)), (a5, .inl (G.2.1, 60, .inl tx))]) hP hD [0, 1, 2, 3, 4, 5] [] rfl rfl (by decide) (by decide) hk1 hP1 hD1
          generalize H1 = H at hP hS ⊢
          have hP : va_P G.1 vwCl [(ob, .inr (6, [.ref a1, .ref a2, .ref a3, .int (nI n), .ref a4, .int kp, .ref a5, .int (nI len), .int thr, .int (nI spot), .int bad, .int (nI 97), .int (nI x), .int (nI y), .int wh, .long hash])), (a1, .inl (G.2.1, 97, .inl (fArr f x (nI y)))), (a2, .inl (G.2.1, 97, .inl th)), (a3, .inl (G.2.1, 582, .inl pa)), (a4, .inl (G.2.1, 97, .inl sn)), (a5, .inl (G.2.1, 60, .inl tx))] H := hP
          have hD : va_D A [(ob, .inr (6, [.ref a1, .ref a2, .ref a3, .int (nI n), .ref a4, .int kp, .ref a5, .int (nI len), .int thr, .int (nI spot), .int bad, .int (nI 97), .int (nI x), .int (nI y), .int wh, .long hash])), (a1, .inl (G.2.1, 97, .inl (fArr f x (nI y)))), (a2, .inl (G.2.1, 97, .inl th)), (a3, .inl (G.2.1, 582, .inl pa)), (a4, .inl (G.2.1, 97, .inl sn)), (a5, .inl (G.2.1, 60, .inl tx))] := hD
          refine lv_goto (tgt := 220) hx hb dX6_canDo_138 (by decide) ?_
          refine tI (y := nI (nn f (57 + (11 * x)) + 1)) (by rw [hq1, nI_add]) ?_
          refine lv_istore_n (lv' := [(2, .int (nI (nn f (57 + (11 * x)) + 1))), (1, .int (nI 1)), (0, .ref ob)]) hx hb dX6_canDo_220 rfl hl (by decide) rfl (fun ls hl => ?_)
          refine lv_iload_n hx hb dX6_canDo_221 rfl (lv_at hl 1 rfl) ?_
          refine lv_if_eq (tgt := 245) hx hb dX6_canDo_222 (by decide) (fun c222 => ?_) (fun c222 => ?_)
          · skip
            exact absurd c222 (by decide)
          · skip
            refine lv_aload_n hx hb dX6_canDo_225 rfl (lv_at hl 2 rfl) ?_
            refine va_get (D := G.1) (ci := 6) (v := .int (nI 97)) (C := RX6) (T := TX6) (N := 16) hx hb hts w_0 hown hE.1 hP 0 rfl rfl 11 (by decide) w_1 (fun _ h9 => h9) rfl dX6_canDo_226 ?_
            refine lv_bipush (v := nI 119) hx hb dX6_canDo_229 (by decide +kernel) ?_
            refine icmp_neN (tgt := 245) hx hb (by omega) (by omega) dX6_canDo_231 (by decide) (fun c231 => ?_) (fun c231 => ?_)
            · skip
              refine lv_iload_n hx hb dX6_canDo_245 rfl (lv_at hl 1 rfl) ?_
              refine lv_if_eq (tgt := 257) hx hb dX6_canDo_246 (by decide) (fun c246 => ?_) (fun c246 => ?_)
              · skip
                exact absurd c246 (by decide)
              · skip
                refine lv_iload_n hx hb dX6_canDo_249 rfl (lv_at hl 0 rfl) ?_
                refine lv_if_lt (tgt := 257) hx hb dX6_canDo_250 (by decide) (fun c250 => ?_) (fun c250 => ?_)
                · skip
                  exact absurd c250 (nI_pos (by omega))
                · skip
                  refine lv_iconst (v := nI 1) hx hb dX6_canDo_253 (by decide +kernel) ?_
                  refine lv_goto (tgt := 258) hx hb dX6_canDo_254 (by decide) ?_
                  refine tS (st' := [.int (b2 (cnD f 97 x = true))]) (congrArg (fun z => [Value.int z]) ((b2_t (b2_1.mp c110)).symm)) ?_
                  exact W.zret hx hb hr (b2_z _) (fun t ht hW => ⟨rfl, by rw [ht]; exact (by unfold exD; rw [if_pos (b2_1.mp c110)]; exact ⟨hP, hD⟩), hS.F ht⟩) hS.2.2 dX6_canDo_258
            · skip
              omega
      · skip
        have hb9 : b2 (cnD f 97 x = true) = nI 0 := b2_f (b2_0.mp c110)
        rw [hb9] at hl
        have hl : lv_has ls 3 [(1, .int (nI 0)), (0, .ref ob)] := hl
        refine lv_iconst (v := nI 0) hx hb dX6_canDo_113 (by decide +kernel) ?_
        refine lv_goto (tgt := 220) hx hb dX6_canDo_114 (by decide) ?_
        refine lv_istore_n (lv' := [(2, .int (nI 0)), (1, .int (nI 0)), (0, .ref ob)]) hx hb dX6_canDo_220 rfl hl (by decide) rfl (fun ls hl => ?_)
        refine lv_iload_n hx hb dX6_canDo_221 rfl (lv_at hl 1 rfl) ?_
        refine lv_if_eq (tgt := 245) hx hb dX6_canDo_222 (by decide) (fun c222 => ?_) (fun c222 => ?_)
        · skip
          refine lv_iload_n hx hb dX6_canDo_245 rfl (lv_at hl 1 rfl) ?_
          refine lv_if_eq (tgt := 257) hx hb dX6_canDo_246 (by decide) (fun c246 => ?_) (fun c246 => ?_)
          · skip
            refine lv_iconst (v := nI 0) hx hb dX6_canDo_257 (by decide +kernel) ?_
            refine tS (st' := [.int (b2 (cnD f 97 x = true))]) (congrArg (fun z => [Value.int z]) ((b2_f (b2_0.mp c110)).symm)) ?_
            exact W.zret hx hb hr (b2_z _) (fun t ht hW => ⟨rfl, by rw [ht]; exact (by unfold exD; rw [if_neg (b2_0.mp c110)]; exact ⟨hP, hD⟩), hS.F ht⟩) hS.2.2 dX6_canDo_258
          · skip
            exact absurd c246 (by decide)
        · skip
          exact absurd c222 (by decide)
    · skip
      refine icmp_geN (tgt := 29) hx hb (by omega) (by omega) dX6_canDo_22 (by decide) (fun c22 => ?_) (fun c22 => ?_)
      · skip
        refine lv_iconst (v := nI 0) hx hb dX6_canDo_29 (by decide +kernel) ?_
        refine lv_goto (tgt := 108) hx hb dX6_canDo_30 (by decide) ?_
        exact J108 (nI 0) _ (by simp only [b2, cnD]; simp only [if_true, decide_eq_true_eq]; split <;> first | rfl | omega) (lv_sub hl [0] rfl)
      · skip
        refine lv_iconst (v := nI 1) hx hb dX6_canDo_25 (by decide +kernel) ?_
        refine lv_goto (tgt := 108) hx hb dX6_canDo_26 (by decide) ?_
        exact J108 (nI 1) _ (by simp only [b2, cnD]; simp only [if_true, decide_eq_true_eq]; split <;> first | rfl | omega) (lv_sub hl [0] rfl)
set_option maxHeartbeats 4000000 in
set_option maxRecDepth 100000 in
theorem c_X6_canDo_l (l : Launch) (G : eG) (ob a1 a2 a3 a4 a5 : Nat) (f th pa sn tx : Nat → Int32) (n len spot : Nat) (kp thr bad lt one two wh : Int32) (hash : Int64) (B : Nat) (hB : B < 800000000) (ho : Okf B f) (x y : Nat) (hx2 : x < 2) : Met l yX6_canDo wsX6_canDo ({ frames := 6, cells := 0, slots := 0, locals := 300 }) (PC [.ref ob] G (fun H => va_P G.1 vwCl [(ob, .inr (6, [.ref a1, .ref a2, .ref a3, .int (nI n), .ref a4, .int kp, .ref a5, .int (nI len), .int thr, .int (nI spot), .int bad, .int (nI 108), .int (nI x), .int (nI y), .int wh, .long hash])), (a1, .inl (G.2.1, 97, .inl f)), (a2, .inl (G.2.1, 97, .inl th)), (a3, .inl (G.2.1, 582, .inl pa)), (a4, .inl (G.2.1, 97, .inl sn)), (a5, .inl (G.2.1, 60, .inl tx))] H ∧ va_D (fun _ => True) [(ob, .inr (6, [.ref a1, .ref a2, .ref a3, .int (nI n), .ref a4, .int kp, .ref a5, .int (nI len), .int thr, .int (nI spot), .int bad, .int (nI 108), .int (nI x), .int (nI y), .int wh, .long hash])), (a1, .inl (G.2.1, 97, .inl f)), (a2, .inl (G.2.1, 97, .inl th)), (a3, .inl (G.2.1, 582, .inl pa)), (a4, .inl (G.2.1, 97, .inl sn)), (a5, .inl (G.2.1, 60, .inl tx))])) (MV (some (.int (b2 (cnD f 108 x = true)))) (fun H => va_P G.1 vwCl [(ob, .inr (6, [.ref a1, .ref a2, .ref a3, .int (nI n), .ref a4, .int kp, .ref a5, .int (nI len), .int thr, .int (nI spot), .int bad, .int (nI 108), .int (nI x), .int (nI y), .int wh, .long hash])), (a1, .inl (G.2.1, 97, .inl (exD f 108 x y))), (a2, .inl (G.2.1, 97, .inl th)), (a3, .inl (G.2.1, 582, .inl pa)), (a4, .inl (G.2.1, 97, .inl sn)), (a5, .inl (G.2.1, 60, .inl tx))] H ∧ va_D (inW [(ob, .inr (6, [.ref a1, .ref a2, .ref a3, .int (nI n), .ref a4, .int kp, .ref a5, .int (nI len), .int thr, .int (nI spot), .int bad, .int (nI 108), .int (nI x), .int (nI y), .int wh, .long hash])), (a1, .inl (G.2.1, 97, .inl f)), (a2, .inl (G.2.1, 97, .inl th)), (a3, .inl (G.2.1, 582, .inl pa)), (a4, .inl (G.2.1, 97, .inl sn)), (a5, .inl (G.2.1, 60, .inl tx))]) [(ob, .inr (6, [.ref a1, .ref a2, .ref a3, .int (nI n), .ref a4, .int kp, .ref a5, .int (nI len), .int thr, .int (nI spot), .int bad, .int (nI 108), .int (nI x), .int (nI y), .int wh, .long hash])), (a1, .inl (G.2.1, 97, .inl (exD f 108 x y))), (a2, .inl (G.2.1, 97, .inl th)), (a3, .inl (G.2.1, 582, .inl pa)), (a4, .inl (G.2.1, 97, .inl sn)), (a5, .inl (G.2.1, 60, .inl tx))]) (inW [(ob, .inr (6, [.ref a1, .ref a2, .ref a3, .int (nI n), .ref a4, .int kp, .ref a5, .int (nI len), .int thr, .int (nI spot), .int bad, .int (nI 108), .int (nI x), .int (nI y), .int wh, .long hash])), (a1, .inl (G.2.1, 97, .inl f)), (a2, .inl (G.2.1, 97, .inl th)), (a3, .inl (G.2.1, 582, .inl pa)), (a4, .inl (G.2.1, 97, .inl sn)), (a5, .inl (G.2.1, 60, .inl tx))])) 0 0 (inW [(ob, .inr (6, [.ref a1, .ref a2, .ref a3, .int (nI n), .ref a4, .int kp, .ref a5, .int (nI len), .int thr, .int (nI spot), .int bad, .int (nI 108), .int (nI x), .int (nI y), .int wh, .long hash])), (a1, .inl (G.2.1, 97, .inl f)), (a2, .inl (G.2.1, 97, .inl th)), (a3, .inl (G.2.1, 582, .inl pa)), (a4, .inl (G.2.1, 97, .inl sn)), (a5, .inl (G.2.1, 60, .inl tx))]) := by
  refine ofB (cc := cX6_canDo) (maxL := 3) (ret := (some .boolean)) (by decide) rfl (Nat.le_of_ble_eq_true rfl) ?_
  intro p e s m below meth c hx hb hr hlocks hml hown hin hts hE hI ls hl
  replace hown : s.vm.findClass RX6 = some m.cls := hown
  have hl : lv_has ls 3 [(0, .ref ob)] := hl
  obtain ⟨hP, hD0⟩ := hI
  have hD : va_D (inW [(ob, .inr (6, [.ref a1, .ref a2, .ref a3, .int (nI n), .ref a4, .int kp, .ref a5, .int (nI len), .int thr, .int (nI spot), .int bad, .int (nI 108), .int (nI x), .int (nI y), .int wh, .long hash])), (a1, .inl (G.2.1, 97, .inl f)), (a2, .inl (G.2.1, 97, .inl th)), (a3, .inl (G.2.1, 582, .inl pa)), (a4, .inl (G.2.1, 97, .inl sn)), (a5, .inl (G.2.1, 60, .inl tx))]) [(ob, .inr (6, [.ref a1, .ref a2, .ref a3, .int (nI n), .ref a4, .int kp, .ref a5, .int (nI len), .int thr, .int (nI spot), .int bad, .int (nI 108), .int (nI x), .int (nI y), .int wh, .long hash])), (a1, .inl (G.2.1, 97, .inl f)), (a2, .inl (G.2.1, 97, .inl th)), (a3, .inl (G.2.1, 582, .inl pa)), (a4, .inl (G.2.1, 97, .inl sn)), (a5, .inl (G.2.1, 60, .inl tx))] := D_self hD0
  obtain ⟨A, hAe⟩ : ∃ A, A = inW [(ob, .inr (6, [.ref a1, .ref a2, .ref a3, .int (nI n), .ref a4, .int kp, .ref a5, .int (nI len), .int thr, .int (nI spot), .int bad, .int (nI 108), .int (nI x), .int (nI y), .int wh, .long hash])), (a1, .inl (G.2.1, 97, .inl f)), (a2, .inl (G.2.1, 97, .inl th)), (a3, .inl (G.2.1, 582, .inl pa)), (a4, .inl (G.2.1, 97, .inl sn)), (a5, .inl (G.2.1, 60, .inl tx))] := ⟨_, rfl⟩
  rw [← hAe] at hD ⊢
  have hS : va_S A s.heap s.heap [] := va_S.rf
  obtain ⟨H, hHe⟩ : ∃ H, H = s.heap := ⟨_, rfl⟩
  obtain ⟨locs, hle⟩ : ∃ q : List Loc, q = [] := ⟨_, rfl⟩
  rw [← hle] at hS ⊢
  have hP : va_P G.1 vwCl [(ob, .inr (6, [.ref a1, .ref a2, .ref a3, .int (nI n), .ref a4, .int kp, .ref a5, .int (nI len), .int thr, .int (nI spot), .int bad, .int (nI 108), .int (nI x), .int (nI y), .int wh, .long hash])), (a1, .inl (G.2.1, 97, .inl f)), (a2, .inl (G.2.1, 97, .inl th)), (a3, .inl (G.2.1, 582, .inl pa)), (a4, .inl (G.2.1, 97, .inl sn)), (a5, .inl (G.2.1, 60, .inl tx))] H := by rw [hHe]; exact hP
  replace hS : va_S A s.heap H locs := by rw [hHe]; exact hS
  refine tH hHe ?_
  have w_0 : ∀ w ∈ u_ws RX6 TX6 16, w ∈ wsX6_canDo := by decide +kernel
  have w_1 := hts (.fieldLink RX6 136 "CableFerryModel" "letter" "I") (by decide +kernel)
  have w_2 := hts (.fieldLink RX6 139 "CableFerryModel" "one" "I") (by decide +kernel)
  have hs := okf_shp (by omega) ho
  refine lv_aload_n hx hb dX6_canDo_0 rfl (lv_at hl 0 rfl) ?_
  refine va_get (D := G.1) (ci := 6) (v := .int (nI 108)) (C := RX6) (T := TX6) (N := 16) hx hb hts w_0 hown hE.1 hP 0 rfl rfl 11 (by decide) w_1 (fun _ h9 => h9) rfl dX6_canDo_1 ?_
  refine lv_bipush (v := nI 97) hx hb dX6_canDo_4 (by decide +kernel) ?_
  refine icmp_neN (tgt := 33) hx hb (by omega) (by omega) dX6_canDo_6 (by decide) (fun c6 => ?_) (fun c6 => ?_)
  · skip
    refine lv_aload_n hx hb dX6_canDo_33 rfl (lv_at hl 0 rfl) ?_
    refine va_get (D := G.1) (ci := 6) (v := .int (nI 108)) (C := RX6) (T := TX6) (N := 16) hx hb hts w_0 hown hE.1 hP 0 rfl rfl 11 (by decide) w_1 (fun _ h9 => h9) rfl dX6_canDo_34 ?_
    refine lv_bipush (v := nI 108) hx hb dX6_canDo_37 (by decide +kernel) ?_
    refine icmp_neN (tgt := 53) hx hb (by omega) (by omega) dX6_canDo_39 (by decide) (fun c39 => ?_) (fun c39 => ?_)
    · skip
      omega
    · skip
      refine lv_aload_n hx hb dX6_canDo_42 rfl (lv_at hl 0 rfl) ?_
      refine lv_aload_n hx hb dX6_canDo_43 rfl (lv_at hl 0 rfl) ?_
      refine va_get (D := G.1) (ci := 6) (v := .int (nI x)) (C := RX6) (T := TX6) (N := 16) hx hb hts w_0 hown hE.1 hP 0 rfl rfl 12 (by decide) w_2 (fun _ h9 => h9) rfl dX6_canDo_44 ?_
      refine pcall (st1 := [.int (b2 (fCan f x = true))]) (va_runV (As := [.int (nI x)]) (rest := []) ⟨hx, hb, hml, hown, hts⟩ (c_X6_canLoad l G ob a1 a2 a3 a4 a5 f th pa sn tx n len spot kp thr bad (nI 108) (nI x) (nI y) wh hash hs x (by omega)) (cwV 1 hts gX6_canDo_X6_canLoad rfl rfl rfl (by decide +kernel) ⟨Nat.le_of_ble_eq_true rfl, Nat.le_of_ble_eq_true rfl⟩) (PC.preV hE (va_recv hE.1 hP (ci := 6) (q0 := 0) rfl rfl) hP) rfl rfl hl.1 rfl (lv_room (Nat.le_of_ble_eq_true rfl)) dX6_canDo_47 ⟨Nat.zero_le _, Nat.zero_le _⟩) rfl ?_
      refine lv_goto (tgt := 108) hx hb dX6_canDo_50 (by decide) ?_
      refine tI (y := b2 (cnD f 108 x = true)) (by simp only [cnD]; rfl) ?_
      refine lv_istore_n (lv' := [(1, .int (b2 (cnD f 108 x = true))), (0, .ref ob)]) hx hb dX6_canDo_108 rfl hl (by decide) rfl (fun ls hl => ?_)
      refine lv_iload_n hx hb dX6_canDo_109 rfl (lv_at hl 0 rfl) ?_
      refine lv_if_ne (tgt := 117) hx hb dX6_canDo_110 (by decide) (fun c110 => ?_) (fun c110 => ?_)
      · skip
        have hb9 : b2 (cnD f 108 x = true) = nI 1 := b2_t (b2_1.mp c110)
        rw [hb9] at hl
        have hl : lv_has ls 3 [(1, .int (nI 1)), (0, .ref ob)] := hl
        refine lv_aload_n hx hb dX6_canDo_117 rfl (lv_at hl 1 rfl) ?_
        refine va_get (D := G.1) (ci := 6) (v := .int (nI 108)) (C := RX6) (T := TX6) (N := 16) hx hb hts w_0 hown hE.1 hP 0 rfl rfl 11 (by decide) w_1 (fun _ h9 => h9) rfl dX6_canDo_118 ?_
        refine lv_bipush (v := nI 97) hx hb dX6_canDo_121 (by decide +kernel) ?_
        refine icmp_neN (tgt := 141) hx hb (by omega) (by omega) dX6_canDo_123 (by decide) (fun c123 => ?_) (fun c123 => ?_)
        · skip
          refine lv_aload_n hx hb dX6_canDo_141 rfl (lv_at hl 1 rfl) ?_
          refine va_get (D := G.1) (ci := 6) (v := .int (nI 108)) (C := RX6) (T := TX6) (N := 16) hx hb hts w_0 hown hE.1 hP 0 rfl rfl 11 (by decide) w_1 (fun _ h9 => h9) rfl dX6_canDo_142 ?_
          refine lv_bipush (v := nI 108) hx hb dX6_canDo_145 (by decide +kernel) ?_
          refine icmp_neN (tgt := 161) hx hb (by omega) (by omega) dX6_canDo_147 (by decide) (fun c147 => ?_) (fun c147 => ?_)
          · skip
            omega
          · skip
            have hcan : fCan f x = true := by simpa [cnD] using b2_1.mp c110
            have hcan2 : 0 < nn f (57 + (11 * nn f 51)) ∧ nn f (79 + (9 * x)) < 4 := by simpa [fCan] using hcan
            have hb51 := ho.2.2.1.2.2.2.2.1.2
            have hwt := (ho.2.2.2.1 (nn f 51) (by omega)).2 0 hcan2.1
            replace hwt : rg f (fAt f + 1) 20 := hwt
            have hwtb := hwt.2
            refine lv_aload_n hx hb dX6_canDo_150 rfl (lv_at hl 1 rfl) ?_
            refine lv_aload_n hx hb dX6_canDo_151 rfl (lv_at hl 1 rfl) ?_
            refine va_get (D := G.1) (ci := 6) (v := .int (nI x)) (C := RX6) (T := TX6) (N := 16) hx hb hts w_0 hown hE.1 hP 0 rfl rfl 12 (by decide) w_2 (fun _ h9 => h9) rfl dX6_canDo_152 ?_
            have hPc := hP.sub (ws' := [(ob, .inr (6, [.ref a1, .ref a2, .ref a3, .int (nI n), .ref a4, .int kp, .ref a5, .int (nI len), .int thr, .int (nI spot), .int bad, .int (nI 108), .int (nI x), .int (nI y), .int wh, .long hash])), (a1, .inl (G.2.1, 97, .inl f)), (a2, .inl (G.2.1, 97, .inl th)), (a3, .inl (G.2.1, 582, .inl pa)), (a4, .inl (G.2.1, 97, .inl sn)), (a5, .inl (G.2.1, 60, .inl tx))]) [0, 1, 2, 3, 4, 5] rfl
            have hDc := hD.sub (ws' := [(ob, .inr (6, [.ref a1, .ref a2, .ref a3, .int (nI n), .ref a4, .int kp, .ref a5, .int (nI len), .int thr, .int (nI spot), .int bad, .int (nI 108), .int (nI x), .int (nI y), .int wh, .long hash])), (a1, .inl (G.2.1, 97, .inl f)), (a2, .inl (G.2.1, 97, .inl th)), (a3, .inl (G.2.1, 582, .inl pa)), (a4, .inl (G.2.1, 97, .inl sn)), (a5, .inl (G.2.1, 60, .inl tx))]) [0, 1, 2, 3, 4, 5] (by decide) rfl
            refine mcall (st1 := [.int (f (fAt f + 1))]) (va_runV (As := [.int (nI x)]) (rest := []) ⟨hx, hb, hml, hown, hts⟩ (c_X6_loads l G ob a1 a2 a3 a4 a5 f th pa sn tx n len spot kp thr bad (nI 108) (nI x) (nI y) wh hash hs x (by omega) hcan2.2) (cwV 1 hts gX6_canDo_X6_loads rfl rfl rfl (by decide +kernel) ⟨Nat.le_of_ble_eq_true rfl, Nat.le_of_ble_eq_true rfl⟩) (PC.preV hE (va_recv hE.1 hP (ci := 6) (q0 := 0) rfl rfl) ⟨hPc, hDc.weaken (fun _ _ _ _ => trivial)⟩) rfl rfl hl.1 rfl (lv_room (Nat.le_of_ble_eq_true rfl)) dX6_canDo_155 ⟨Nat.zero_le _, Nat.zero_le _⟩) hS (fun q _ h => inW_D hDc q h) (fun q h => inW_D hDc q h) rfl (fun H1 locs1 hB hz1 hk1 hS => ?_)
            obtain ⟨hP1, hD1⟩ := hB
            obtain ⟨hP, hD⟩ := jnW (wr := []) (w1 := [(ob, .inr (6, [.ref a1, .ref a2, .ref a3, .int (nI n), .ref a4, .int kp, .ref a5, .int (nI len), .int thr, .int (nI spot), .int bad, .int (nI 108), .int (nI x), .int (nI y), .int wh, .long hash])), (a1, .inl (G.2.1, 97, .inl (fLod f x))), (a2, .inl (G.2.1, 97, .inl th)), (a3, .inl (G.2.1, 582, .inl pa)), (a4, .inl (G.2.1, 97, .inl sn)), (a5, .inl (G.2.1, 60, .inl tx))]) hP hD [0, 1, 2, 3, 4, 5] [] rfl rfl (by decide) (by decide) hk1 hP1 hD1
            generalize H1 = H at hP hS ⊢
            have hP : va_P G.1 vwCl [(ob, .inr (6, [.ref a1, .ref a2, .ref a3, .int (nI n), .ref a4, .int kp, .ref a5, .int (nI len), .int thr, .int (nI spot), .int bad, .int (nI 108), .int (nI x), .int (nI y), .int wh, .long hash])), (a1, .inl (G.2.1, 97, .inl (fLod f x))), (a2, .inl (G.2.1, 97, .inl th)), (a3, .inl (G.2.1, 582, .inl pa)), (a4, .inl (G.2.1, 97, .inl sn)), (a5, .inl (G.2.1, 60, .inl tx))] H := hP
            have hD : va_D A [(ob, .inr (6, [.ref a1, .ref a2, .ref a3, .int (nI n), .ref a4, .int kp, .ref a5, .int (nI len), .int thr, .int (nI spot), .int bad, .int (nI 108), .int (nI x), .int (nI y), .int wh, .long hash])), (a1, .inl (G.2.1, 97, .inl (fLod f x))), (a2, .inl (G.2.1, 97, .inl th)), (a3, .inl (G.2.1, 582, .inl pa)), (a4, .inl (G.2.1, 97, .inl sn)), (a5, .inl (G.2.1, 60, .inl tx))] := hD
            refine lv_goto (tgt := 220) hx hb dX6_canDo_158 (by decide) ?_
            refine tI (y := nI (nn f (fAt f + 1))) (hwt.1) ?_
            refine lv_istore_n (lv' := [(2, .int (nI (nn f (fAt f + 1)))), (1, .int (nI 1)), (0, .ref ob)]) hx hb dX6_canDo_220 rfl hl (by decide) rfl (fun ls hl => ?_)
            refine lv_iload_n hx hb dX6_canDo_221 rfl (lv_at hl 1 rfl) ?_
            refine lv_if_eq (tgt := 245) hx hb dX6_canDo_222 (by decide) (fun c222 => ?_) (fun c222 => ?_)
            · skip
              exact absurd c222 (by decide)
            · skip
              refine lv_aload_n hx hb dX6_canDo_225 rfl (lv_at hl 2 rfl) ?_
              refine va_get (D := G.1) (ci := 6) (v := .int (nI 108)) (C := RX6) (T := TX6) (N := 16) hx hb hts w_0 hown hE.1 hP 0 rfl rfl 11 (by decide) w_1 (fun _ h9 => h9) rfl dX6_canDo_226 ?_
              refine lv_bipush (v := nI 119) hx hb dX6_canDo_229 (by decide +kernel) ?_
              refine icmp_neN (tgt := 245) hx hb (by omega) (by omega) dX6_canDo_231 (by decide) (fun c231 => ?_) (fun c231 => ?_)
              · skip
                refine lv_iload_n hx hb dX6_canDo_245 rfl (lv_at hl 1 rfl) ?_
                refine lv_if_eq (tgt := 257) hx hb dX6_canDo_246 (by decide) (fun c246 => ?_) (fun c246 => ?_)
                · skip
                  exact absurd c246 (by decide)
                · skip
                  refine lv_iload_n hx hb dX6_canDo_249 rfl (lv_at hl 0 rfl) ?_
                  refine lv_if_lt (tgt := 257) hx hb dX6_canDo_250 (by decide) (fun c250 => ?_) (fun c250 => ?_)
                  · skip
                    exact absurd c250 (nI_pos (by omega))
                  · skip
                    refine lv_iconst (v := nI 1) hx hb dX6_canDo_253 (by decide +kernel) ?_
                    refine lv_goto (tgt := 258) hx hb dX6_canDo_254 (by decide) ?_
                    refine tS (st' := [.int (b2 (cnD f 108 x = true))]) (congrArg (fun z => [Value.int z]) ((b2_t (b2_1.mp c110)).symm)) ?_
                    exact W.zret hx hb hr (b2_z _) (fun t ht hW => ⟨rfl, by rw [ht]; exact (by unfold exD; rw [if_pos (b2_1.mp c110)]; exact ⟨hP, hD⟩), hS.F ht⟩) hS.2.2 dX6_canDo_258
              · skip
                omega
        · skip
          omega
      · skip
        have hb9 : b2 (cnD f 108 x = true) = nI 0 := b2_f (b2_0.mp c110)
        rw [hb9] at hl
        have hl : lv_has ls 3 [(1, .int (nI 0)), (0, .ref ob)] := hl
        refine lv_iconst (v := nI 0) hx hb dX6_canDo_113 (by decide +kernel) ?_
        refine lv_goto (tgt := 220) hx hb dX6_canDo_114 (by decide) ?_
        refine lv_istore_n (lv' := [(2, .int (nI 0)), (1, .int (nI 0)), (0, .ref ob)]) hx hb dX6_canDo_220 rfl hl (by decide) rfl (fun ls hl => ?_)
        refine lv_iload_n hx hb dX6_canDo_221 rfl (lv_at hl 1 rfl) ?_
        refine lv_if_eq (tgt := 245) hx hb dX6_canDo_222 (by decide) (fun c222 => ?_) (fun c222 => ?_)
        · skip
          refine lv_iload_n hx hb dX6_canDo_245 rfl (lv_at hl 1 rfl) ?_
          refine lv_if_eq (tgt := 257) hx hb dX6_canDo_246 (by decide) (fun c246 => ?_) (fun c246 => ?_)
          · skip
            refine lv_iconst (v := nI 0) hx hb dX6_canDo_257 (by decide +kernel) ?_
            refine tS (st' := [.int (b2 (cnD f 108 x = true))]) (congrArg (fun z => [Value.int z]) ((b2_f (b2_0.mp c110)).symm)) ?_
            exact W.zret hx hb hr (b2_z _) (fun t ht hW => ⟨rfl, by rw [ht]; exact (by unfold exD; rw [if_neg (b2_0.mp c110)]; exact ⟨hP, hD⟩), hS.F ht⟩) hS.2.2 dX6_canDo_258
          · skip
            exact absurd c246 (by decide)
        · skip
          exact absurd c222 (by decide)
  · skip
    omega
set_option maxHeartbeats 4000000 in
set_option maxRecDepth 100000 in
theorem c_X6_canDo_u (l : Launch) (G : eG) (ob a1 a2 a3 a4 a5 : Nat) (f th pa sn tx : Nat → Int32) (n len spot : Nat) (kp thr bad lt one two wh : Int32) (hash : Int64) (B : Nat) (hB : B < 800000000) (ho : Okf B f) : Met l yX6_canDo wsX6_canDo ({ frames := 6, cells := 0, slots := 0, locals := 300 }) (PC [.ref ob] G (fun H => va_P G.1 vwCl [(ob, .inr (6, [.ref a1, .ref a2, .ref a3, .int (nI n), .ref a4, .int kp, .ref a5, .int (nI len), .int thr, .int (nI spot), .int bad, .int (nI 117), .int (nI 0), .int (nI 0), .int wh, .long hash])), (a1, .inl (G.2.1, 97, .inl f)), (a2, .inl (G.2.1, 97, .inl th)), (a3, .inl (G.2.1, 582, .inl pa)), (a4, .inl (G.2.1, 97, .inl sn)), (a5, .inl (G.2.1, 60, .inl tx))] H ∧ va_D (fun _ => True) [(ob, .inr (6, [.ref a1, .ref a2, .ref a3, .int (nI n), .ref a4, .int kp, .ref a5, .int (nI len), .int thr, .int (nI spot), .int bad, .int (nI 117), .int (nI 0), .int (nI 0), .int wh, .long hash])), (a1, .inl (G.2.1, 97, .inl f)), (a2, .inl (G.2.1, 97, .inl th)), (a3, .inl (G.2.1, 582, .inl pa)), (a4, .inl (G.2.1, 97, .inl sn)), (a5, .inl (G.2.1, 60, .inl tx))])) (MV (some (.int (b2 (cnD f 117 0 = true)))) (fun H => va_P G.1 vwCl [(ob, .inr (6, [.ref a1, .ref a2, .ref a3, .int (nI n), .ref a4, .int kp, .ref a5, .int (nI len), .int thr, .int (nI spot), .int bad, .int (nI 117), .int (nI 0), .int (nI 0), .int wh, .long hash])), (a1, .inl (G.2.1, 97, .inl (exD f 117 0 0))), (a2, .inl (G.2.1, 97, .inl th)), (a3, .inl (G.2.1, 582, .inl pa)), (a4, .inl (G.2.1, 97, .inl sn)), (a5, .inl (G.2.1, 60, .inl tx))] H ∧ va_D (inW [(ob, .inr (6, [.ref a1, .ref a2, .ref a3, .int (nI n), .ref a4, .int kp, .ref a5, .int (nI len), .int thr, .int (nI spot), .int bad, .int (nI 117), .int (nI 0), .int (nI 0), .int wh, .long hash])), (a1, .inl (G.2.1, 97, .inl f)), (a2, .inl (G.2.1, 97, .inl th)), (a3, .inl (G.2.1, 582, .inl pa)), (a4, .inl (G.2.1, 97, .inl sn)), (a5, .inl (G.2.1, 60, .inl tx))]) [(ob, .inr (6, [.ref a1, .ref a2, .ref a3, .int (nI n), .ref a4, .int kp, .ref a5, .int (nI len), .int thr, .int (nI spot), .int bad, .int (nI 117), .int (nI 0), .int (nI 0), .int wh, .long hash])), (a1, .inl (G.2.1, 97, .inl (exD f 117 0 0))), (a2, .inl (G.2.1, 97, .inl th)), (a3, .inl (G.2.1, 582, .inl pa)), (a4, .inl (G.2.1, 97, .inl sn)), (a5, .inl (G.2.1, 60, .inl tx))]) (inW [(ob, .inr (6, [.ref a1, .ref a2, .ref a3, .int (nI n), .ref a4, .int kp, .ref a5, .int (nI len), .int thr, .int (nI spot), .int bad, .int (nI 117), .int (nI 0), .int (nI 0), .int wh, .long hash])), (a1, .inl (G.2.1, 97, .inl f)), (a2, .inl (G.2.1, 97, .inl th)), (a3, .inl (G.2.1, 582, .inl pa)), (a4, .inl (G.2.1, 97, .inl sn)), (a5, .inl (G.2.1, 60, .inl tx))])) 0 0 (inW [(ob, .inr (6, [.ref a1, .ref a2, .ref a3, .int (nI n), .ref a4, .int kp, .ref a5, .int (nI len), .int thr, .int (nI spot), .int bad, .int (nI 117), .int (nI 0), .int (nI 0), .int wh, .long hash])), (a1, .inl (G.2.1, 97, .inl f)), (a2, .inl (G.2.1, 97, .inl th)), (a3, .inl (G.2.1, 582, .inl pa)), (a4, .inl (G.2.1, 97, .inl sn)), (a5, .inl (G.2.1, 60, .inl tx))]) := by
  refine ofB (cc := cX6_canDo) (maxL := 3) (ret := (some .boolean)) (by decide) rfl (Nat.le_of_ble_eq_true rfl) ?_
  intro p e s m below meth c hx hb hr hlocks hml hown hin hts hE hI ls hl
  replace hown : s.vm.findClass RX6 = some m.cls := hown
  have hl : lv_has ls 3 [(0, .ref ob)] := hl
  obtain ⟨hP, hD0⟩ := hI
  have hD : va_D (inW [(ob, .inr (6, [.ref a1, .ref a2, .ref a3, .int (nI n), .ref a4, .int kp, .ref a5, .int (nI len), .int thr, .int (nI spot), .int bad, .int (nI 117), .int (nI 0), .int (nI 0), .int wh, .long hash])), (a1, .inl (G.2.1, 97, .inl f)), (a2, .inl (G.2.1, 97, .inl th)), (a3, .inl (G.2.1, 582, .inl pa)), (a4, .inl (G.2.1, 97, .inl sn)), (a5, .inl (G.2.1, 60, .inl tx))]) [(ob, .inr (6, [.ref a1, .ref a2, .ref a3, .int (nI n), .ref a4, .int kp, .ref a5, .int (nI len), .int thr, .int (nI spot), .int bad, .int (nI 117), .int (nI 0), .int (nI 0), .int wh, .long hash])), (a1, .inl (G.2.1, 97, .inl f)), (a2, .inl (G.2.1, 97, .inl th)), (a3, .inl (G.2.1, 582, .inl pa)), (a4, .inl (G.2.1, 97, .inl sn)), (a5, .inl (G.2.1, 60, .inl tx))] := D_self hD0
  obtain ⟨A, hAe⟩ : ∃ A, A = inW [(ob, .inr (6, [.ref a1, .ref a2, .ref a3, .int (nI n), .ref a4, .int kp, .ref a5, .int (nI len), .int thr, .int (nI spot), .int bad, .int (nI 117), .int (nI 0), .int (nI 0), .int wh, .long hash])), (a1, .inl (G.2.1, 97, .inl f)), (a2, .inl (G.2.1, 97, .inl th)), (a3, .inl (G.2.1, 582, .inl pa)), (a4, .inl (G.2.1, 97, .inl sn)), (a5, .inl (G.2.1, 60, .inl tx))] := ⟨_, rfl⟩
  rw [← hAe] at hD ⊢
  have hS : va_S A s.heap s.heap [] := va_S.rf
  obtain ⟨H, hHe⟩ : ∃ H, H = s.heap := ⟨_, rfl⟩
  obtain ⟨locs, hle⟩ : ∃ q : List Loc, q = [] := ⟨_, rfl⟩
  rw [← hle] at hS ⊢
  have hP : va_P G.1 vwCl [(ob, .inr (6, [.ref a1, .ref a2, .ref a3, .int (nI n), .ref a4, .int kp, .ref a5, .int (nI len), .int thr, .int (nI spot), .int bad, .int (nI 117), .int (nI 0), .int (nI 0), .int wh, .long hash])), (a1, .inl (G.2.1, 97, .inl f)), (a2, .inl (G.2.1, 97, .inl th)), (a3, .inl (G.2.1, 582, .inl pa)), (a4, .inl (G.2.1, 97, .inl sn)), (a5, .inl (G.2.1, 60, .inl tx))] H := by rw [hHe]; exact hP
  replace hS : va_S A s.heap H locs := by rw [hHe]; exact hS
  refine tH hHe ?_
  have w_0 : ∀ w ∈ u_ws RX6 TX6 16, w ∈ wsX6_canDo := by decide +kernel
  have w_1 := hts (.fieldLink RX6 136 "CableFerryModel" "letter" "I") (by decide +kernel)
  have hs := okf_shp (by omega) ho
  obtain ⟨us, us1, us2⟩ := unC_b f
  refine lv_aload_n hx hb dX6_canDo_0 rfl (lv_at hl 0 rfl) ?_
  refine va_get (D := G.1) (ci := 6) (v := .int (nI 117)) (C := RX6) (T := TX6) (N := 16) hx hb hts w_0 hown hE.1 hP 0 rfl rfl 11 (by decide) w_1 (fun _ h9 => h9) rfl dX6_canDo_1 ?_
  refine lv_bipush (v := nI 97) hx hb dX6_canDo_4 (by decide +kernel) ?_
  refine icmp_neN (tgt := 33) hx hb (by omega) (by omega) dX6_canDo_6 (by decide) (fun c6 => ?_) (fun c6 => ?_)
  · skip
    refine lv_aload_n hx hb dX6_canDo_33 rfl (lv_at hl 0 rfl) ?_
    refine va_get (D := G.1) (ci := 6) (v := .int (nI 117)) (C := RX6) (T := TX6) (N := 16) hx hb hts w_0 hown hE.1 hP 0 rfl rfl 11 (by decide) w_1 (fun _ h9 => h9) rfl dX6_canDo_34 ?_
    refine lv_bipush (v := nI 108) hx hb dX6_canDo_37 (by decide +kernel) ?_
    refine icmp_neN (tgt := 53) hx hb (by omega) (by omega) dX6_canDo_39 (by decide) (fun c39 => ?_) (fun c39 => ?_)
    · skip
      refine lv_aload_n hx hb dX6_canDo_53 rfl (lv_at hl 0 rfl) ?_
      refine va_get (D := G.1) (ci := 6) (v := .int (nI 117)) (C := RX6) (T := TX6) (N := 16) hx hb hts w_0 hown hE.1 hP 0 rfl rfl 11 (by decide) w_1 (fun _ h9 => h9) rfl dX6_canDo_54 ?_
      refine lv_bipush (v := nI 120) hx hb dX6_canDo_57 (by decide +kernel) ?_
      refine icmp_neN (tgt := 80) hx hb (by omega) (by omega) dX6_canDo_59 (by decide) (fun c59 => ?_) (fun c59 => ?_)
      · skip
        refine lv_aload_n hx hb dX6_canDo_80 rfl (lv_at hl 0 rfl) ?_
        refine va_get (D := G.1) (ci := 6) (v := .int (nI 117)) (C := RX6) (T := TX6) (N := 16) hx hb hts w_0 hown hE.1 hP 0 rfl rfl 11 (by decide) w_1 (fun _ h9 => h9) rfl dX6_canDo_81 ?_
        refine lv_bipush (v := nI 100) hx hb dX6_canDo_84 (by decide +kernel) ?_
        refine icmp_neN (tgt := 103) hx hb (by omega) (by omega) dX6_canDo_86 (by decide) (fun c86 => ?_) (fun c86 => ?_)
        · skip
          refine lv_iconst (v := nI 1) hx hb dX6_canDo_103 (by decide +kernel) ?_
          refine lv_goto (tgt := 108) hx hb dX6_canDo_104 (by decide) ?_
          refine lv_istore_n (lv' := [(1, .int (nI 1)), (0, .ref ob)]) hx hb dX6_canDo_108 rfl hl (by decide) rfl (fun ls hl => ?_)
          refine lv_iload_n hx hb dX6_canDo_109 rfl (lv_at hl 0 rfl) ?_
          refine lv_if_ne (tgt := 117) hx hb dX6_canDo_110 (by decide) (fun c110 => ?_) (fun c110 => ?_)
          · skip
            refine lv_aload_n hx hb dX6_canDo_117 rfl (lv_at hl 1 rfl) ?_
            refine va_get (D := G.1) (ci := 6) (v := .int (nI 117)) (C := RX6) (T := TX6) (N := 16) hx hb hts w_0 hown hE.1 hP 0 rfl rfl 11 (by decide) w_1 (fun _ h9 => h9) rfl dX6_canDo_118 ?_
            refine lv_bipush (v := nI 97) hx hb dX6_canDo_121 (by decide +kernel) ?_
            refine icmp_neN (tgt := 141) hx hb (by omega) (by omega) dX6_canDo_123 (by decide) (fun c123 => ?_) (fun c123 => ?_)
            · skip
              refine lv_aload_n hx hb dX6_canDo_141 rfl (lv_at hl 1 rfl) ?_
              refine va_get (D := G.1) (ci := 6) (v := .int (nI 117)) (C := RX6) (T := TX6) (N := 16) hx hb hts w_0 hown hE.1 hP 0 rfl rfl 11 (by decide) w_1 (fun _ h9 => h9) rfl dX6_canDo_142 ?_
              refine lv_bipush (v := nI 108) hx hb dX6_canDo_145 (by decide +kernel) ?_
              refine icmp_neN (tgt := 161) hx hb (by omega) (by omega) dX6_canDo_147 (by decide) (fun c147 => ?_) (fun c147 => ?_)
              · skip
                refine lv_aload_n hx hb dX6_canDo_161 rfl (lv_at hl 1 rfl) ?_
                refine va_get (D := G.1) (ci := 6) (v := .int (nI 117)) (C := RX6) (T := TX6) (N := 16) hx hb hts w_0 hown hE.1 hP 0 rfl rfl 11 (by decide) w_1 (fun _ h9 => h9) rfl dX6_canDo_162 ?_
                refine lv_bipush (v := nI 117) hx hb dX6_canDo_165 (by decide +kernel) ?_
                refine icmp_neN (tgt := 177) hx hb (by omega) (by omega) dX6_canDo_167 (by decide) (fun c167 => ?_) (fun c167 => ?_)
                · skip
                  omega
                · skip
                  refine lv_aload_n hx hb dX6_canDo_170 rfl (lv_at hl 1 rfl) ?_
                  have hPc := hP.sub (ws' := [(ob, .inr (6, [.ref a1, .ref a2, .ref a3, .int (nI n), .ref a4, .int kp, .ref a5, .int (nI len), .int thr, .int (nI spot), .int bad, .int (nI 117), .int (nI 0), .int (nI 0), .int wh, .long hash])), (a1, .inl (G.2.1, 97, .inl f)), (a2, .inl (G.2.1, 97, .inl th)), (a3, .inl (G.2.1, 582, .inl pa)), (a4, .inl (G.2.1, 97, .inl sn)), (a5, .inl (G.2.1, 60, .inl tx))]) [0, 1, 2, 3, 4, 5] rfl
                  have hDc := hD.sub (ws' := [(ob, .inr (6, [.ref a1, .ref a2, .ref a3, .int (nI n), .ref a4, .int kp, .ref a5, .int (nI len), .int thr, .int (nI spot), .int bad, .int (nI 117), .int (nI 0), .int (nI 0), .int wh, .long hash])), (a1, .inl (G.2.1, 97, .inl f)), (a2, .inl (G.2.1, 97, .inl th)), (a3, .inl (G.2.1, 582, .inl pa)), (a4, .inl (G.2.1, 97, .inl sn)), (a5, .inl (G.2.1, 60, .inl tx))]) [0, 1, 2, 3, 4, 5] (by decide) rfl
                  refine mcall (st1 := [.int (unC f)]) (va_runV (As := []) (rest := []) ⟨hx, hb, hml, hown, hts⟩ (c_X6_unloads l G ob a1 a2 a3 a4 a5 f th pa sn tx n len spot kp thr bad (nI 117) (nI 0) (nI 0) wh hash hs) (cwV 0 hts gX6_canDo_X6_unloads rfl rfl rfl (by decide +kernel) ⟨Nat.le_of_ble_eq_true rfl, Nat.le_of_ble_eq_true rfl⟩) (PC.preV hE (va_recv hE.1 hP (ci := 6) (q0 := 0) rfl rfl) ⟨hPc, hDc.weaken (fun _ _ _ _ => trivial)⟩) rfl rfl hl.1 rfl (lv_room (Nat.le_of_ble_eq_true rfl)) dX6_canDo_171 ⟨Nat.zero_le _, Nat.zero_le _⟩) hS (fun q _ h => inW_D hDc q h) (fun q h => inW_D hDc q h) rfl (fun H1 locs1 hB hz1 hk1 hS => ?_)
                  obtain ⟨hP1, hD1⟩ := hB
                  obtain ⟨hP, hD⟩ := jnW (wr := []) (w1 := [(ob, .inr (6, [.ref a1, .ref a2, .ref a3, .int (nI n), .ref a4, .int kp, .ref a5, .int (nI len), .int thr, .int (nI spot), .int bad, .int (nI 117), .int (nI 0), .int (nI 0), .int wh, .long hash])), (a1, .inl (G.2.1, 97, .inl (fUnl f))), (a2, .inl (G.2.1, 97, .inl th)), (a3, .inl (G.2.1, 582, .inl pa)), (a4, .inl (G.2.1, 97, .inl sn)), (a5, .inl (G.2.1, 60, .inl tx))]) hP hD [0, 1, 2, 3, 4, 5] [] rfl rfl (by decide) (by decide) hk1 hP1 hD1
                  generalize H1 = H at hP hS ⊢
                  have hP : va_P G.1 vwCl [(ob, .inr (6, [.ref a1, .ref a2, .ref a3, .int (nI n), .ref a4, .int kp, .ref a5, .int (nI len), .int thr, .int (nI spot), .int bad, .int (nI 117), .int (nI 0), .int (nI 0), .int wh, .long hash])), (a1, .inl (G.2.1, 97, .inl (fUnl f))), (a2, .inl (G.2.1, 97, .inl th)), (a3, .inl (G.2.1, 582, .inl pa)), (a4, .inl (G.2.1, 97, .inl sn)), (a5, .inl (G.2.1, 60, .inl tx))] H := hP
                  have hD : va_D A [(ob, .inr (6, [.ref a1, .ref a2, .ref a3, .int (nI n), .ref a4, .int kp, .ref a5, .int (nI len), .int thr, .int (nI spot), .int bad, .int (nI 117), .int (nI 0), .int (nI 0), .int wh, .long hash])), (a1, .inl (G.2.1, 97, .inl (fUnl f))), (a2, .inl (G.2.1, 97, .inl th)), (a3, .inl (G.2.1, 582, .inl pa)), (a4, .inl (G.2.1, 97, .inl sn)), (a5, .inl (G.2.1, 60, .inl tx))] := hD
                  refine lv_goto (tgt := 220) hx hb dX6_canDo_174 (by decide) ?_
                  refine tI (y := nI us) (us2) ?_
                  refine lv_istore_n (lv' := [(2, .int (nI us)), (1, .int (nI 1)), (0, .ref ob)]) hx hb dX6_canDo_220 rfl hl (by decide) rfl (fun ls hl => ?_)
                  refine lv_iload_n hx hb dX6_canDo_221 rfl (lv_at hl 1 rfl) ?_
                  refine lv_if_eq (tgt := 245) hx hb dX6_canDo_222 (by decide) (fun c222 => ?_) (fun c222 => ?_)
                  · skip
                    exact absurd c222 (by decide)
                  · skip
                    refine lv_aload_n hx hb dX6_canDo_225 rfl (lv_at hl 2 rfl) ?_
                    refine va_get (D := G.1) (ci := 6) (v := .int (nI 117)) (C := RX6) (T := TX6) (N := 16) hx hb hts w_0 hown hE.1 hP 0 rfl rfl 11 (by decide) w_1 (fun _ h9 => h9) rfl dX6_canDo_226 ?_
                    refine lv_bipush (v := nI 119) hx hb dX6_canDo_229 (by decide +kernel) ?_
                    refine icmp_neN (tgt := 245) hx hb (by omega) (by omega) dX6_canDo_231 (by decide) (fun c231 => ?_) (fun c231 => ?_)
                    · skip
                      refine lv_iload_n hx hb dX6_canDo_245 rfl (lv_at hl 1 rfl) ?_
                      refine lv_if_eq (tgt := 257) hx hb dX6_canDo_246 (by decide) (fun c246 => ?_) (fun c246 => ?_)
                      · skip
                        exact absurd c246 (by decide)
                      · skip
                        refine lv_iload_n hx hb dX6_canDo_249 rfl (lv_at hl 0 rfl) ?_
                        refine lv_if_lt (tgt := 257) hx hb dX6_canDo_250 (by decide) (fun c250 => ?_) (fun c250 => ?_)
                        · skip
                          exact absurd c250 (nI_pos (by omega))
                        · skip
                          refine lv_iconst (v := nI 1) hx hb dX6_canDo_253 (by decide +kernel) ?_
                          refine lv_goto (tgt := 258) hx hb dX6_canDo_254 (by decide) ?_
                          refine tS (st' := [.int (b2 (cnD f 117 0 = true))]) (congrArg (fun z => [Value.int z]) ((b2_t (rfl)).symm)) ?_
                          exact W.zret hx hb hr (b2_z _) (fun t ht hW => ⟨rfl, by rw [ht]; exact ⟨hP, hD⟩, hS.F ht⟩) hS.2.2 dX6_canDo_258
                    · skip
                      omega
              · skip
                omega
            · skip
              omega
          · skip
            exact absurd c110 (by decide)
        · skip
          omega
      · skip
        omega
    · skip
      omega
  · skip
    omega
set_option maxHeartbeats 4000000 in
set_option maxRecDepth 100000 in
theorem c_X6_canDo_x (l : Launch) (G : eG) (ob a1 a2 a3 a4 a5 : Nat) (f th pa sn tx : Nat → Int32) (n len spot : Nat) (kp thr bad lt one two wh : Int32) (hash : Int64) (B : Nat) (hB : B < 800000000) (ho : Okf B f) : Met l yX6_canDo wsX6_canDo ({ frames := 6, cells := 0, slots := 0, locals := 300 }) (PC [.ref ob] G (fun H => va_P G.1 vwCl [(ob, .inr (6, [.ref a1, .ref a2, .ref a3, .int (nI n), .ref a4, .int kp, .ref a5, .int (nI len), .int thr, .int (nI spot), .int bad, .int (nI 120), .int (nI 0), .int (nI 0), .int wh, .long hash])), (a1, .inl (G.2.1, 97, .inl f)), (a2, .inl (G.2.1, 97, .inl th)), (a3, .inl (G.2.1, 582, .inl pa)), (a4, .inl (G.2.1, 97, .inl sn)), (a5, .inl (G.2.1, 60, .inl tx))] H ∧ va_D (fun _ => True) [(ob, .inr (6, [.ref a1, .ref a2, .ref a3, .int (nI n), .ref a4, .int kp, .ref a5, .int (nI len), .int thr, .int (nI spot), .int bad, .int (nI 120), .int (nI 0), .int (nI 0), .int wh, .long hash])), (a1, .inl (G.2.1, 97, .inl f)), (a2, .inl (G.2.1, 97, .inl th)), (a3, .inl (G.2.1, 582, .inl pa)), (a4, .inl (G.2.1, 97, .inl sn)), (a5, .inl (G.2.1, 60, .inl tx))])) (MV (some (.int (b2 (cnD f 120 0 = true)))) (fun H => va_P G.1 vwCl [(ob, .inr (6, [.ref a1, .ref a2, .ref a3, .int (nI n), .ref a4, .int kp, .ref a5, .int (nI len), .int thr, .int (nI spot), .int bad, .int (nI 120), .int (nI 0), .int (nI 0), .int wh, .long hash])), (a1, .inl (G.2.1, 97, .inl (exD f 120 0 0))), (a2, .inl (G.2.1, 97, .inl th)), (a3, .inl (G.2.1, 582, .inl pa)), (a4, .inl (G.2.1, 97, .inl sn)), (a5, .inl (G.2.1, 60, .inl tx))] H ∧ va_D (inW [(ob, .inr (6, [.ref a1, .ref a2, .ref a3, .int (nI n), .ref a4, .int kp, .ref a5, .int (nI len), .int thr, .int (nI spot), .int bad, .int (nI 120), .int (nI 0), .int (nI 0), .int wh, .long hash])), (a1, .inl (G.2.1, 97, .inl f)), (a2, .inl (G.2.1, 97, .inl th)), (a3, .inl (G.2.1, 582, .inl pa)), (a4, .inl (G.2.1, 97, .inl sn)), (a5, .inl (G.2.1, 60, .inl tx))]) [(ob, .inr (6, [.ref a1, .ref a2, .ref a3, .int (nI n), .ref a4, .int kp, .ref a5, .int (nI len), .int thr, .int (nI spot), .int bad, .int (nI 120), .int (nI 0), .int (nI 0), .int wh, .long hash])), (a1, .inl (G.2.1, 97, .inl (exD f 120 0 0))), (a2, .inl (G.2.1, 97, .inl th)), (a3, .inl (G.2.1, 582, .inl pa)), (a4, .inl (G.2.1, 97, .inl sn)), (a5, .inl (G.2.1, 60, .inl tx))]) (inW [(ob, .inr (6, [.ref a1, .ref a2, .ref a3, .int (nI n), .ref a4, .int kp, .ref a5, .int (nI len), .int thr, .int (nI spot), .int bad, .int (nI 120), .int (nI 0), .int (nI 0), .int wh, .long hash])), (a1, .inl (G.2.1, 97, .inl f)), (a2, .inl (G.2.1, 97, .inl th)), (a3, .inl (G.2.1, 582, .inl pa)), (a4, .inl (G.2.1, 97, .inl sn)), (a5, .inl (G.2.1, 60, .inl tx))])) 0 0 (inW [(ob, .inr (6, [.ref a1, .ref a2, .ref a3, .int (nI n), .ref a4, .int kp, .ref a5, .int (nI len), .int thr, .int (nI spot), .int bad, .int (nI 120), .int (nI 0), .int (nI 0), .int wh, .long hash])), (a1, .inl (G.2.1, 97, .inl f)), (a2, .inl (G.2.1, 97, .inl th)), (a3, .inl (G.2.1, 582, .inl pa)), (a4, .inl (G.2.1, 97, .inl sn)), (a5, .inl (G.2.1, 60, .inl tx))]) := by
  refine ofB (cc := cX6_canDo) (maxL := 3) (ret := (some .boolean)) (by decide) rfl (Nat.le_of_ble_eq_true rfl) ?_
  intro p e s m below meth c hx hb hr hlocks hml hown hin hts hE hI ls hl
  replace hown : s.vm.findClass RX6 = some m.cls := hown
  have hl : lv_has ls 3 [(0, .ref ob)] := hl
  obtain ⟨hP, hD0⟩ := hI
  have hD : va_D (inW [(ob, .inr (6, [.ref a1, .ref a2, .ref a3, .int (nI n), .ref a4, .int kp, .ref a5, .int (nI len), .int thr, .int (nI spot), .int bad, .int (nI 120), .int (nI 0), .int (nI 0), .int wh, .long hash])), (a1, .inl (G.2.1, 97, .inl f)), (a2, .inl (G.2.1, 97, .inl th)), (a3, .inl (G.2.1, 582, .inl pa)), (a4, .inl (G.2.1, 97, .inl sn)), (a5, .inl (G.2.1, 60, .inl tx))]) [(ob, .inr (6, [.ref a1, .ref a2, .ref a3, .int (nI n), .ref a4, .int kp, .ref a5, .int (nI len), .int thr, .int (nI spot), .int bad, .int (nI 120), .int (nI 0), .int (nI 0), .int wh, .long hash])), (a1, .inl (G.2.1, 97, .inl f)), (a2, .inl (G.2.1, 97, .inl th)), (a3, .inl (G.2.1, 582, .inl pa)), (a4, .inl (G.2.1, 97, .inl sn)), (a5, .inl (G.2.1, 60, .inl tx))] := D_self hD0
  obtain ⟨A, hAe⟩ : ∃ A, A = inW [(ob, .inr (6, [.ref a1, .ref a2, .ref a3, .int (nI n), .ref a4, .int kp, .ref a5, .int (nI len), .int thr, .int (nI spot), .int bad, .int (nI 120), .int (nI 0), .int (nI 0), .int wh, .long hash])), (a1, .inl (G.2.1, 97, .inl f)), (a2, .inl (G.2.1, 97, .inl th)), (a3, .inl (G.2.1, 582, .inl pa)), (a4, .inl (G.2.1, 97, .inl sn)), (a5, .inl (G.2.1, 60, .inl tx))] := ⟨_, rfl⟩
  rw [← hAe] at hD ⊢
  have hS : va_S A s.heap s.heap [] := va_S.rf
  obtain ⟨H, hHe⟩ : ∃ H, H = s.heap := ⟨_, rfl⟩
  obtain ⟨locs, hle⟩ : ∃ q : List Loc, q = [] := ⟨_, rfl⟩
  rw [← hle] at hS ⊢
  have hP : va_P G.1 vwCl [(ob, .inr (6, [.ref a1, .ref a2, .ref a3, .int (nI n), .ref a4, .int kp, .ref a5, .int (nI len), .int thr, .int (nI spot), .int bad, .int (nI 120), .int (nI 0), .int (nI 0), .int wh, .long hash])), (a1, .inl (G.2.1, 97, .inl f)), (a2, .inl (G.2.1, 97, .inl th)), (a3, .inl (G.2.1, 582, .inl pa)), (a4, .inl (G.2.1, 97, .inl sn)), (a5, .inl (G.2.1, 60, .inl tx))] H := by rw [hHe]; exact hP
  replace hS : va_S A s.heap H locs := by rw [hHe]; exact hS
  refine tH hHe ?_
  have w_0 : ∀ w ∈ u_ws RX6 TX6 16, w ∈ wsX6_canDo := by decide +kernel
  have w_1 := hts (.fieldLink RX6 136 "CableFerryModel" "letter" "I") (by decide +kernel)
  have w_2 := hts (.fieldLink RX6 7 "CableFerryModel" "now" "[I") (by decide +kernel)
  have hs := okf_shp (by omega) ho
  have hslb := sl_b ho
  refine lv_aload_n hx hb dX6_canDo_0 rfl (lv_at hl 0 rfl) ?_
  refine va_get (D := G.1) (ci := 6) (v := .int (nI 120)) (C := RX6) (T := TX6) (N := 16) hx hb hts w_0 hown hE.1 hP 0 rfl rfl 11 (by decide) w_1 (fun _ h9 => h9) rfl dX6_canDo_1 ?_
  refine lv_bipush (v := nI 97) hx hb dX6_canDo_4 (by decide +kernel) ?_
  refine icmp_neN (tgt := 33) hx hb (by omega) (by omega) dX6_canDo_6 (by decide) (fun c6 => ?_) (fun c6 => ?_)
  · skip
    refine lv_aload_n hx hb dX6_canDo_33 rfl (lv_at hl 0 rfl) ?_
    refine va_get (D := G.1) (ci := 6) (v := .int (nI 120)) (C := RX6) (T := TX6) (N := 16) hx hb hts w_0 hown hE.1 hP 0 rfl rfl 11 (by decide) w_1 (fun _ h9 => h9) rfl dX6_canDo_34 ?_
    refine lv_bipush (v := nI 108) hx hb dX6_canDo_37 (by decide +kernel) ?_
    refine icmp_neN (tgt := 53) hx hb (by omega) (by omega) dX6_canDo_39 (by decide) (fun c39 => ?_) (fun c39 => ?_)
    · skip
      refine lv_aload_n hx hb dX6_canDo_53 rfl (lv_at hl 0 rfl) ?_
      refine va_get (D := G.1) (ci := 6) (v := .int (nI 120)) (C := RX6) (T := TX6) (N := 16) hx hb hts w_0 hown hE.1 hP 0 rfl rfl 11 (by decide) w_1 (fun _ h9 => h9) rfl dX6_canDo_54 ?_
      refine lv_bipush (v := nI 120) hx hb dX6_canDo_57 (by decide +kernel) ?_
      refine icmp_neN (tgt := 80) hx hb (by omega) (by omega) dX6_canDo_59 (by decide) (fun c59 => ?_) (fun c59 => ?_)
      · skip
        omega
      · skip
        refine lv_aload_n hx hb dX6_canDo_62 rfl (lv_at hl 0 rfl) ?_
        refine va_get (D := G.1) (ci := 6) (v := .ref a1) (C := RX6) (T := TX6) (N := 16) hx hb hts w_0 hown hE.1 hP 0 rfl rfl 0 (by decide) w_2 (fun _ h9 => h9) rfl dX6_canDo_63 ?_
        refine pcall (st1 := [.int (fRsn f)]) (va_runS (As := [.ref a1]) (rest := []) ⟨hx, hb, hml, hown, hts⟩ (c_X6_reason l G a1 f hs) (va_cwS 1 hts gX6_canDo_X6_reason rfl rfl rfl (by decide +kernel) ⟨Nat.le_of_ble_eq_true rfl, Nat.le_of_ble_eq_true rfl⟩) (PC.preS hE (hP.sub [1] rfl)) rfl rfl hl.1 rfl (lv_room (Nat.le_of_ble_eq_true rfl)) dX6_canDo_66 ⟨Nat.zero_le _, Nat.zero_le _⟩) rfl ?_
        refine cutL (σ := Int32) (n := 3) (pc1 := 108) (fun r => r = b2 (cnD f 120 0 = true)) (fun r => [(0, .ref ob)]) (fun r => [.int r]) ?_ (fun J108 => ?_)
        · rintro r ls hI hl
          replace hI : r = b2 (cnD f 120 0 = true) := hI
          subst hI
          have hl : lv_has ls 3 [(0, .ref ob)] := hl
          refine tS (st' := [.int (b2 (cnD f 120 0 = true))]) rfl ?_
          refine lv_istore_n (lv' := [(1, .int (b2 (cnD f 120 0 = true))), (0, .ref ob)]) hx hb dX6_canDo_108 rfl hl (by decide) rfl (fun ls hl => ?_)
          refine lv_iload_n hx hb dX6_canDo_109 rfl (lv_at hl 0 rfl) ?_
          refine lv_if_ne (tgt := 117) hx hb dX6_canDo_110 (by decide) (fun c110 => ?_) (fun c110 => ?_)
          · skip
            have hb9 : b2 (cnD f 120 0 = true) = nI 1 := b2_t (b2_1.mp c110)
            rw [hb9] at hl
            have hl : lv_has ls 3 [(1, .int (nI 1)), (0, .ref ob)] := hl
            refine lv_aload_n hx hb dX6_canDo_117 rfl (lv_at hl 1 rfl) ?_
            refine va_get (D := G.1) (ci := 6) (v := .int (nI 120)) (C := RX6) (T := TX6) (N := 16) hx hb hts w_0 hown hE.1 hP 0 rfl rfl 11 (by decide) w_1 (fun _ h9 => h9) rfl dX6_canDo_118 ?_
            refine lv_bipush (v := nI 97) hx hb dX6_canDo_121 (by decide +kernel) ?_
            refine icmp_neN (tgt := 141) hx hb (by omega) (by omega) dX6_canDo_123 (by decide) (fun c123 => ?_) (fun c123 => ?_)
            · skip
              refine lv_aload_n hx hb dX6_canDo_141 rfl (lv_at hl 1 rfl) ?_
              refine va_get (D := G.1) (ci := 6) (v := .int (nI 120)) (C := RX6) (T := TX6) (N := 16) hx hb hts w_0 hown hE.1 hP 0 rfl rfl 11 (by decide) w_1 (fun _ h9 => h9) rfl dX6_canDo_142 ?_
              refine lv_bipush (v := nI 108) hx hb dX6_canDo_145 (by decide +kernel) ?_
              refine icmp_neN (tgt := 161) hx hb (by omega) (by omega) dX6_canDo_147 (by decide) (fun c147 => ?_) (fun c147 => ?_)
              · skip
                refine lv_aload_n hx hb dX6_canDo_161 rfl (lv_at hl 1 rfl) ?_
                refine va_get (D := G.1) (ci := 6) (v := .int (nI 120)) (C := RX6) (T := TX6) (N := 16) hx hb hts w_0 hown hE.1 hP 0 rfl rfl 11 (by decide) w_1 (fun _ h9 => h9) rfl dX6_canDo_162 ?_
                refine lv_bipush (v := nI 117) hx hb dX6_canDo_165 (by decide +kernel) ?_
                refine icmp_neN (tgt := 177) hx hb (by omega) (by omega) dX6_canDo_167 (by decide) (fun c167 => ?_) (fun c167 => ?_)
                · skip
                  refine lv_aload_n hx hb dX6_canDo_177 rfl (lv_at hl 1 rfl) ?_
                  refine va_get (D := G.1) (ci := 6) (v := .int (nI 120)) (C := RX6) (T := TX6) (N := 16) hx hb hts w_0 hown hE.1 hP 0 rfl rfl 11 (by decide) w_1 (fun _ h9 => h9) rfl dX6_canDo_178 ?_
                  refine lv_bipush (v := nI 120) hx hb dX6_canDo_181 (by decide +kernel) ?_
                  refine icmp_neN (tgt := 196) hx hb (by omega) (by omega) dX6_canDo_183 (by decide) (fun c183 => ?_) (fun c183 => ?_)
                  · skip
                    omega
                  · skip
                    refine lv_aload_n hx hb dX6_canDo_186 rfl (lv_at hl 1 rfl) ?_
                    refine va_get (D := G.1) (ci := 6) (v := .ref a1) (C := RX6) (T := TX6) (N := 16) hx hb hts w_0 hown hE.1 hP 0 rfl rfl 0 (by decide) w_2 (fun _ h9 => h9) rfl dX6_canDo_187 ?_
                    have hPc := hP.sub (ws' := [(a1, .inl (G.2.1, 97, .inl f))]) [1] rfl
                    have hDc := hD.sub (ws' := [(a1, .inl (G.2.1, 97, .inl f))]) [1] (by decide) rfl
                    refine mcall (st1 := [.int (nI (fHrs f))]) (va_runS (As := [.ref a1]) (rest := []) ⟨hx, hb, hml, hown, hts⟩ (c_X6_crosses l G a1 f hs ((okf_cro ho).1)) (va_cwS 1 hts gX6_canDo_X6_crosses rfl rfl rfl (by decide +kernel) ⟨Nat.le_of_ble_eq_true rfl, Nat.le_of_ble_eq_true rfl⟩) (PC.preS hE ⟨hPc, hDc.weaken (fun _ _ _ _ => trivial)⟩) rfl rfl hl.1 rfl (lv_room (Nat.le_of_ble_eq_true rfl)) dX6_canDo_190 ⟨Nat.zero_le _, Nat.zero_le _⟩) hS (fun q _ h => inW_D hDc q h) (fun q h => inW_D hDc q h) rfl (fun H1 locs1 hB hz1 hk1 hS => ?_)
                    obtain ⟨hP1, hD1⟩ := hB
                    obtain ⟨hP, hD⟩ := jnW (wr := [(ob, .inr (6, [.ref a1, .ref a2, .ref a3, .int (nI n), .ref a4, .int kp, .ref a5, .int (nI len), .int thr, .int (nI spot), .int bad, .int (nI 120), .int (nI 0), .int (nI 0), .int wh, .long hash])), (a2, .inl (G.2.1, 97, .inl th)), (a3, .inl (G.2.1, 582, .inl pa)), (a4, .inl (G.2.1, 97, .inl sn)), (a5, .inl (G.2.1, 60, .inl tx))]) (w1 := [(a1, .inl (G.2.1, 97, .inl (fCrs f)))]) hP hD [1] [0, 2, 3, 4, 5] rfl rfl (by decide) (by decide) hk1 hP1 hD1
                    generalize H1 = H at hP hS ⊢
                    replace hP := hP.sub (ws' := [(ob, .inr (6, [.ref a1, .ref a2, .ref a3, .int (nI n), .ref a4, .int kp, .ref a5, .int (nI len), .int thr, .int (nI spot), .int bad, .int (nI 120), .int (nI 0), .int (nI 0), .int wh, .long hash])), (a1, .inl (G.2.1, 97, .inl (fCrs f))), (a2, .inl (G.2.1, 97, .inl th)), (a3, .inl (G.2.1, 582, .inl pa)), (a4, .inl (G.2.1, 97, .inl sn)), (a5, .inl (G.2.1, 60, .inl tx))]) [0, 5, 1, 2, 3, 4] rfl
                    replace hD := hD.sub (ws' := [(ob, .inr (6, [.ref a1, .ref a2, .ref a3, .int (nI n), .ref a4, .int kp, .ref a5, .int (nI len), .int thr, .int (nI spot), .int bad, .int (nI 120), .int (nI 0), .int (nI 0), .int wh, .long hash])), (a1, .inl (G.2.1, 97, .inl (fCrs f))), (a2, .inl (G.2.1, 97, .inl th)), (a3, .inl (G.2.1, 582, .inl pa)), (a4, .inl (G.2.1, 97, .inl sn)), (a5, .inl (G.2.1, 60, .inl tx))]) [0, 5, 1, 2, 3, 4] (by decide) rfl
                    have hP : va_P G.1 vwCl [(ob, .inr (6, [.ref a1, .ref a2, .ref a3, .int (nI n), .ref a4, .int kp, .ref a5, .int (nI len), .int thr, .int (nI spot), .int bad, .int (nI 120), .int (nI 0), .int (nI 0), .int wh, .long hash])), (a1, .inl (G.2.1, 97, .inl (fCrs f))), (a2, .inl (G.2.1, 97, .inl th)), (a3, .inl (G.2.1, 582, .inl pa)), (a4, .inl (G.2.1, 97, .inl sn)), (a5, .inl (G.2.1, 60, .inl tx))] H := hP
                    have hD : va_D A [(ob, .inr (6, [.ref a1, .ref a2, .ref a3, .int (nI n), .ref a4, .int kp, .ref a5, .int (nI len), .int thr, .int (nI spot), .int bad, .int (nI 120), .int (nI 0), .int (nI 0), .int wh, .long hash])), (a1, .inl (G.2.1, 97, .inl (fCrs f))), (a2, .inl (G.2.1, 97, .inl th)), (a3, .inl (G.2.1, 582, .inl pa)), (a4, .inl (G.2.1, 97, .inl sn)), (a5, .inl (G.2.1, 60, .inl tx))] := hD
                    refine lv_goto (tgt := 220) hx hb dX6_canDo_193 (by decide) ?_
                    refine lv_istore_n (lv' := [(2, .int (nI (fHrs f))), (1, .int (nI 1)), (0, .ref ob)]) hx hb dX6_canDo_220 rfl hl (by decide) rfl (fun ls hl => ?_)
                    refine lv_iload_n hx hb dX6_canDo_221 rfl (lv_at hl 1 rfl) ?_
                    refine lv_if_eq (tgt := 245) hx hb dX6_canDo_222 (by decide) (fun c222 => ?_) (fun c222 => ?_)
                    · skip
                      exact absurd c222 (by decide)
                    · skip
                      refine lv_aload_n hx hb dX6_canDo_225 rfl (lv_at hl 2 rfl) ?_
                      refine va_get (D := G.1) (ci := 6) (v := .int (nI 120)) (C := RX6) (T := TX6) (N := 16) hx hb hts w_0 hown hE.1 hP 0 rfl rfl 11 (by decide) w_1 (fun _ h9 => h9) rfl dX6_canDo_226 ?_
                      refine lv_bipush (v := nI 119) hx hb dX6_canDo_229 (by decide +kernel) ?_
                      refine icmp_neN (tgt := 245) hx hb (by omega) (by omega) dX6_canDo_231 (by decide) (fun c231 => ?_) (fun c231 => ?_)
                      · skip
                        refine lv_iload_n hx hb dX6_canDo_245 rfl (lv_at hl 1 rfl) ?_
                        refine lv_if_eq (tgt := 257) hx hb dX6_canDo_246 (by decide) (fun c246 => ?_) (fun c246 => ?_)
                        · skip
                          exact absurd c246 (by decide)
                        · skip
                          refine lv_iload_n hx hb dX6_canDo_249 rfl (lv_at hl 0 rfl) ?_
                          refine lv_if_lt (tgt := 257) hx hb dX6_canDo_250 (by decide) (fun c250 => ?_) (fun c250 => ?_)
                          · skip
                            exact absurd c250 (nI_pos (by omega))
                          · skip
                            refine lv_iconst (v := nI 1) hx hb dX6_canDo_253 (by decide +kernel) ?_
                            refine lv_goto (tgt := 258) hx hb dX6_canDo_254 (by decide) ?_
                            refine tS (st' := [.int (b2 (cnD f 120 0 = true))]) (congrArg (fun z => [Value.int z]) ((b2_t (b2_1.mp c110)).symm)) ?_
                            exact W.zret hx hb hr (b2_z _) (fun t ht hW => ⟨rfl, by rw [ht]; exact (by unfold exD; rw [if_pos (b2_1.mp c110)]; exact ⟨hP, hD⟩), hS.F ht⟩) hS.2.2 dX6_canDo_258
                      · skip
                        omega
                · skip
                  omega
              · skip
                omega
            · skip
              omega
          · skip
            have hb9 : b2 (cnD f 120 0 = true) = nI 0 := b2_f (b2_0.mp c110)
            rw [hb9] at hl
            have hl : lv_has ls 3 [(1, .int (nI 0)), (0, .ref ob)] := hl
            refine lv_iconst (v := nI 0) hx hb dX6_canDo_113 (by decide +kernel) ?_
            refine lv_goto (tgt := 220) hx hb dX6_canDo_114 (by decide) ?_
            refine lv_istore_n (lv' := [(2, .int (nI 0)), (1, .int (nI 0)), (0, .ref ob)]) hx hb dX6_canDo_220 rfl hl (by decide) rfl (fun ls hl => ?_)
            refine lv_iload_n hx hb dX6_canDo_221 rfl (lv_at hl 1 rfl) ?_
            refine lv_if_eq (tgt := 245) hx hb dX6_canDo_222 (by decide) (fun c222 => ?_) (fun c222 => ?_)
            · skip
              refine lv_iload_n hx hb dX6_canDo_245 rfl (lv_at hl 1 rfl) ?_
              refine lv_if_eq (tgt := 257) hx hb dX6_canDo_246 (by decide) (fun c246 => ?_) (fun c246 => ?_)
              · skip
                refine lv_iconst (v := nI 0) hx hb dX6_canDo_257 (by decide +kernel) ?_
                refine tS (st' := [.int (b2 (cnD f 120 0 = true))]) (congrArg (fun z => [Value.int z]) ((b2_f (b2_0.mp c110)).symm)) ?_
                exact W.zret hx hb hr (b2_z _) (fun t ht hW => ⟨rfl, by rw [ht]; exact (by unfold exD; rw [if_neg (b2_0.mp c110)]; exact ⟨hP, hD⟩), hS.F ht⟩) hS.2.2 dX6_canDo_258
              · skip
                exact absurd c246 (by decide)
            · skip
              exact absurd c222 (by decide)
        · skip
          refine lv_if_ne (tgt := 76) hx hb dX6_canDo_69 (by decide) (fun c69 => ?_) (fun c69 => ?_)
          · skip
            refine lv_iconst (v := nI 0) hx hb dX6_canDo_76 (by decide +kernel) ?_
            refine lv_goto (tgt := 108) hx hb dX6_canDo_77 (by decide) ?_
            exact J108 (nI 0) _ (by simp only [b2, cnD]; simp [c69]) (lv_sub hl [0] rfl)
          · skip
            refine lv_iconst (v := nI 1) hx hb dX6_canDo_72 (by decide +kernel) ?_
            refine lv_goto (tgt := 108) hx hb dX6_canDo_73 (by decide) ?_
            exact J108 (nI 1) _ (by simp only [b2, cnD]; simp [c69]) (lv_sub hl [0] rfl)
    · skip
      omega
  · skip
    omega
set_option maxHeartbeats 4000000 in
set_option maxRecDepth 100000 in
theorem c_X6_canDo_w (l : Launch) (G : eG) (ob a1 a2 a3 a4 a5 : Nat) (f th pa sn tx : Nat → Int32) (n len spot : Nat) (kp thr bad lt one two wh : Int32) (hash : Int64) (B : Nat) (hB : B < 800000000) (ho : Okf B f) (x y : Nat) : Met l yX6_canDo wsX6_canDo ({ frames := 6, cells := 0, slots := 0, locals := 300 }) (PC [.ref ob] G (fun H => va_P G.1 vwCl [(ob, .inr (6, [.ref a1, .ref a2, .ref a3, .int (nI n), .ref a4, .int kp, .ref a5, .int (nI len), .int thr, .int (nI spot), .int bad, .int (nI 119), .int (nI x), .int (nI y), .int wh, .long hash])), (a1, .inl (G.2.1, 97, .inl f)), (a2, .inl (G.2.1, 97, .inl th)), (a3, .inl (G.2.1, 582, .inl pa)), (a4, .inl (G.2.1, 97, .inl sn)), (a5, .inl (G.2.1, 60, .inl tx))] H ∧ va_D (fun _ => True) [(ob, .inr (6, [.ref a1, .ref a2, .ref a3, .int (nI n), .ref a4, .int kp, .ref a5, .int (nI len), .int thr, .int (nI spot), .int bad, .int (nI 119), .int (nI x), .int (nI y), .int wh, .long hash])), (a1, .inl (G.2.1, 97, .inl f)), (a2, .inl (G.2.1, 97, .inl th)), (a3, .inl (G.2.1, 582, .inl pa)), (a4, .inl (G.2.1, 97, .inl sn)), (a5, .inl (G.2.1, 60, .inl tx))])) (MV (some (.int (b2 (cnD f 119 x = true)))) (fun H => va_P G.1 vwCl [(ob, .inr (6, [.ref a1, .ref a2, .ref a3, .int (nI n), .ref a4, .int kp, .ref a5, .int (nI len), .int thr, .int (nI spot), .int bad, .int (nI 119), .int (nI x), .int (nI y), .int wh, .long hash])), (a1, .inl (G.2.1, 97, .inl (exD f 119 x y))), (a2, .inl (G.2.1, 97, .inl th)), (a3, .inl (G.2.1, 582, .inl pa)), (a4, .inl (G.2.1, 97, .inl sn)), (a5, .inl (G.2.1, 60, .inl tx))] H ∧ va_D (inW [(ob, .inr (6, [.ref a1, .ref a2, .ref a3, .int (nI n), .ref a4, .int kp, .ref a5, .int (nI len), .int thr, .int (nI spot), .int bad, .int (nI 119), .int (nI x), .int (nI y), .int wh, .long hash])), (a1, .inl (G.2.1, 97, .inl f)), (a2, .inl (G.2.1, 97, .inl th)), (a3, .inl (G.2.1, 582, .inl pa)), (a4, .inl (G.2.1, 97, .inl sn)), (a5, .inl (G.2.1, 60, .inl tx))]) [(ob, .inr (6, [.ref a1, .ref a2, .ref a3, .int (nI n), .ref a4, .int kp, .ref a5, .int (nI len), .int thr, .int (nI spot), .int bad, .int (nI 119), .int (nI x), .int (nI y), .int wh, .long hash])), (a1, .inl (G.2.1, 97, .inl (exD f 119 x y))), (a2, .inl (G.2.1, 97, .inl th)), (a3, .inl (G.2.1, 582, .inl pa)), (a4, .inl (G.2.1, 97, .inl sn)), (a5, .inl (G.2.1, 60, .inl tx))]) (inW [(ob, .inr (6, [.ref a1, .ref a2, .ref a3, .int (nI n), .ref a4, .int kp, .ref a5, .int (nI len), .int thr, .int (nI spot), .int bad, .int (nI 119), .int (nI x), .int (nI y), .int wh, .long hash])), (a1, .inl (G.2.1, 97, .inl f)), (a2, .inl (G.2.1, 97, .inl th)), (a3, .inl (G.2.1, 582, .inl pa)), (a4, .inl (G.2.1, 97, .inl sn)), (a5, .inl (G.2.1, 60, .inl tx))])) 0 0 (inW [(ob, .inr (6, [.ref a1, .ref a2, .ref a3, .int (nI n), .ref a4, .int kp, .ref a5, .int (nI len), .int thr, .int (nI spot), .int bad, .int (nI 119), .int (nI x), .int (nI y), .int wh, .long hash])), (a1, .inl (G.2.1, 97, .inl f)), (a2, .inl (G.2.1, 97, .inl th)), (a3, .inl (G.2.1, 582, .inl pa)), (a4, .inl (G.2.1, 97, .inl sn)), (a5, .inl (G.2.1, 60, .inl tx))]) := by
  refine ofB (cc := cX6_canDo) (maxL := 3) (ret := (some .boolean)) (by decide) rfl (Nat.le_of_ble_eq_true rfl) ?_
  intro p e s m below meth c hx hb hr hlocks hml hown hin hts hE hI ls hl
  replace hown : s.vm.findClass RX6 = some m.cls := hown
  have hl : lv_has ls 3 [(0, .ref ob)] := hl
  obtain ⟨hP, hD0⟩ := hI
  have hD : va_D (inW [(ob, .inr (6, [.ref a1, .ref a2, .ref a3, .int (nI n), .ref a4, .int kp, .ref a5, .int (nI len), .int thr, .int (nI spot), .int bad, .int (nI 119), .int (nI x), .int (nI y), .int wh, .long hash])), (a1, .inl (G.2.1, 97, .inl f)), (a2, .inl (G.2.1, 97, .inl th)), (a3, .inl (G.2.1, 582, .inl pa)), (a4, .inl (G.2.1, 97, .inl sn)), (a5, .inl (G.2.1, 60, .inl tx))]) [(ob, .inr (6, [.ref a1, .ref a2, .ref a3, .int (nI n), .ref a4, .int kp, .ref a5, .int (nI len), .int thr, .int (nI spot), .int bad, .int (nI 119), .int (nI x), .int (nI y), .int wh, .long hash])), (a1, .inl (G.2.1, 97, .inl f)), (a2, .inl (G.2.1, 97, .inl th)), (a3, .inl (G.2.1, 582, .inl pa)), (a4, .inl (G.2.1, 97, .inl sn)), (a5, .inl (G.2.1, 60, .inl tx))] := D_self hD0
  obtain ⟨A, hAe⟩ : ∃ A, A = inW [(ob, .inr (6, [.ref a1, .ref a2, .ref a3, .int (nI n), .ref a4, .int kp, .ref a5, .int (nI len), .int thr, .int (nI spot), .int bad, .int (nI 119), .int (nI x), .int (nI y), .int wh, .long hash])), (a1, .inl (G.2.1, 97, .inl f)), (a2, .inl (G.2.1, 97, .inl th)), (a3, .inl (G.2.1, 582, .inl pa)), (a4, .inl (G.2.1, 97, .inl sn)), (a5, .inl (G.2.1, 60, .inl tx))] := ⟨_, rfl⟩
  rw [← hAe] at hD ⊢
  have hS : va_S A s.heap s.heap [] := va_S.rf
  obtain ⟨H, hHe⟩ : ∃ H, H = s.heap := ⟨_, rfl⟩
  obtain ⟨locs, hle⟩ : ∃ q : List Loc, q = [] := ⟨_, rfl⟩
  rw [← hle] at hS ⊢
  have hP : va_P G.1 vwCl [(ob, .inr (6, [.ref a1, .ref a2, .ref a3, .int (nI n), .ref a4, .int kp, .ref a5, .int (nI len), .int thr, .int (nI spot), .int bad, .int (nI 119), .int (nI x), .int (nI y), .int wh, .long hash])), (a1, .inl (G.2.1, 97, .inl f)), (a2, .inl (G.2.1, 97, .inl th)), (a3, .inl (G.2.1, 582, .inl pa)), (a4, .inl (G.2.1, 97, .inl sn)), (a5, .inl (G.2.1, 60, .inl tx))] H := by rw [hHe]; exact hP
  replace hS : va_S A s.heap H locs := by rw [hHe]; exact hS
  refine tH hHe ?_
  have w_0 : ∀ w ∈ u_ws RX6 TX6 16, w ∈ wsX6_canDo := by decide +kernel
  have w_1 := hts (.fieldLink RX6 136 "CableFerryModel" "letter" "I") (by decide +kernel)
  have w_2 := hts (.fieldLink RX6 7 "CableFerryModel" "now" "[I") (by decide +kernel)
  have w_3 := hts (.fieldLink RX6 139 "CableFerryModel" "one" "I") (by decide +kernel)
  have hs := okf_shp (by omega) ho
  refine lv_aload_n hx hb dX6_canDo_0 rfl (lv_at hl 0 rfl) ?_
  refine va_get (D := G.1) (ci := 6) (v := .int (nI 119)) (C := RX6) (T := TX6) (N := 16) hx hb hts w_0 hown hE.1 hP 0 rfl rfl 11 (by decide) w_1 (fun _ h9 => h9) rfl dX6_canDo_1 ?_
  refine lv_bipush (v := nI 97) hx hb dX6_canDo_4 (by decide +kernel) ?_
  refine icmp_neN (tgt := 33) hx hb (by omega) (by omega) dX6_canDo_6 (by decide) (fun c6 => ?_) (fun c6 => ?_)
  · skip
    refine lv_aload_n hx hb dX6_canDo_33 rfl (lv_at hl 0 rfl) ?_
    refine va_get (D := G.1) (ci := 6) (v := .int (nI 119)) (C := RX6) (T := TX6) (N := 16) hx hb hts w_0 hown hE.1 hP 0 rfl rfl 11 (by decide) w_1 (fun _ h9 => h9) rfl dX6_canDo_34 ?_
    refine lv_bipush (v := nI 108) hx hb dX6_canDo_37 (by decide +kernel) ?_
    refine icmp_neN (tgt := 53) hx hb (by omega) (by omega) dX6_canDo_39 (by decide) (fun c39 => ?_) (fun c39 => ?_)
    · skip
      refine lv_aload_n hx hb dX6_canDo_53 rfl (lv_at hl 0 rfl) ?_
      refine va_get (D := G.1) (ci := 6) (v := .int (nI 119)) (C := RX6) (T := TX6) (N := 16) hx hb hts w_0 hown hE.1 hP 0 rfl rfl 11 (by decide) w_1 (fun _ h9 => h9) rfl dX6_canDo_54 ?_
      refine lv_bipush (v := nI 120) hx hb dX6_canDo_57 (by decide +kernel) ?_
      refine icmp_neN (tgt := 80) hx hb (by omega) (by omega) dX6_canDo_59 (by decide) (fun c59 => ?_) (fun c59 => ?_)
      · skip
        refine lv_aload_n hx hb dX6_canDo_80 rfl (lv_at hl 0 rfl) ?_
        refine va_get (D := G.1) (ci := 6) (v := .int (nI 119)) (C := RX6) (T := TX6) (N := 16) hx hb hts w_0 hown hE.1 hP 0 rfl rfl 11 (by decide) w_1 (fun _ h9 => h9) rfl dX6_canDo_81 ?_
        refine lv_bipush (v := nI 100) hx hb dX6_canDo_84 (by decide +kernel) ?_
        refine icmp_neN (tgt := 103) hx hb (by omega) (by omega) dX6_canDo_86 (by decide) (fun c86 => ?_) (fun c86 => ?_)
        · skip
          refine lv_iconst (v := nI 1) hx hb dX6_canDo_103 (by decide +kernel) ?_
          refine lv_goto (tgt := 108) hx hb dX6_canDo_104 (by decide) ?_
          refine lv_istore_n (lv' := [(1, .int (nI 1)), (0, .ref ob)]) hx hb dX6_canDo_108 rfl hl (by decide) rfl (fun ls hl => ?_)
          refine lv_iload_n hx hb dX6_canDo_109 rfl (lv_at hl 0 rfl) ?_
          refine lv_if_ne (tgt := 117) hx hb dX6_canDo_110 (by decide) (fun c110 => ?_) (fun c110 => ?_)
          · skip
            refine lv_aload_n hx hb dX6_canDo_117 rfl (lv_at hl 1 rfl) ?_
            refine va_get (D := G.1) (ci := 6) (v := .int (nI 119)) (C := RX6) (T := TX6) (N := 16) hx hb hts w_0 hown hE.1 hP 0 rfl rfl 11 (by decide) w_1 (fun _ h9 => h9) rfl dX6_canDo_118 ?_
            refine lv_bipush (v := nI 97) hx hb dX6_canDo_121 (by decide +kernel) ?_
            refine icmp_neN (tgt := 141) hx hb (by omega) (by omega) dX6_canDo_123 (by decide) (fun c123 => ?_) (fun c123 => ?_)
            · skip
              refine lv_aload_n hx hb dX6_canDo_141 rfl (lv_at hl 1 rfl) ?_
              refine va_get (D := G.1) (ci := 6) (v := .int (nI 119)) (C := RX6) (T := TX6) (N := 16) hx hb hts w_0 hown hE.1 hP 0 rfl rfl 11 (by decide) w_1 (fun _ h9 => h9) rfl dX6_canDo_142 ?_
              refine lv_bipush (v := nI 108) hx hb dX6_canDo_145 (by decide +kernel) ?_
              refine icmp_neN (tgt := 161) hx hb (by omega) (by omega) dX6_canDo_147 (by decide) (fun c147 => ?_) (fun c147 => ?_)
              · skip
                refine lv_aload_n hx hb dX6_canDo_161 rfl (lv_at hl 1 rfl) ?_
                refine va_get (D := G.1) (ci := 6) (v := .int (nI 119)) (C := RX6) (T := TX6) (N := 16) hx hb hts w_0 hown hE.1 hP 0 rfl rfl 11 (by decide) w_1 (fun _ h9 => h9) rfl dX6_canDo_162 ?_
                refine lv_bipush (v := nI 117) hx hb dX6_canDo_165 (by decide +kernel) ?_
                refine icmp_neN (tgt := 177) hx hb (by omega) (by omega) dX6_canDo_167 (by decide) (fun c167 => ?_) (fun c167 => ?_)
                · skip
                  refine lv_aload_n hx hb dX6_canDo_177 rfl (lv_at hl 1 rfl) ?_
                  refine va_get (D := G.1) (ci := 6) (v := .int (nI 119)) (C := RX6) (T := TX6) (N := 16) hx hb hts w_0 hown hE.1 hP 0 rfl rfl 11 (by decide) w_1 (fun _ h9 => h9) rfl dX6_canDo_178 ?_
                  refine lv_bipush (v := nI 120) hx hb dX6_canDo_181 (by decide +kernel) ?_
                  refine icmp_neN (tgt := 196) hx hb (by omega) (by omega) dX6_canDo_183 (by decide) (fun c183 => ?_) (fun c183 => ?_)
                  · skip
                    refine lv_aload_n hx hb dX6_canDo_196 rfl (lv_at hl 1 rfl) ?_
                    refine va_get (D := G.1) (ci := 6) (v := .int (nI 119)) (C := RX6) (T := TX6) (N := 16) hx hb hts w_0 hown hE.1 hP 0 rfl rfl 11 (by decide) w_1 (fun _ h9 => h9) rfl dX6_canDo_197 ?_
                    refine lv_bipush (v := nI 100) hx hb dX6_canDo_200 (by decide +kernel) ?_
                    refine icmp_neN (tgt := 219) hx hb (by omega) (by omega) dX6_canDo_202 (by decide) (fun c202 => ?_) (fun c202 => ?_)
                    · skip
                      refine lv_iconst (v := nI 0) hx hb dX6_canDo_219 (by decide +kernel) ?_
                      refine lv_istore_n (lv' := [(2, .int (nI 0)), (1, .int (nI 1)), (0, .ref ob)]) hx hb dX6_canDo_220 rfl hl (by decide) rfl (fun ls hl => ?_)
                      refine lv_iload_n hx hb dX6_canDo_221 rfl (lv_at hl 1 rfl) ?_
                      refine lv_if_eq (tgt := 245) hx hb dX6_canDo_222 (by decide) (fun c222 => ?_) (fun c222 => ?_)
                      · skip
                        exact absurd c222 (by decide)
                      · skip
                        refine lv_aload_n hx hb dX6_canDo_225 rfl (lv_at hl 2 rfl) ?_
                        refine va_get (D := G.1) (ci := 6) (v := .int (nI 119)) (C := RX6) (T := TX6) (N := 16) hx hb hts w_0 hown hE.1 hP 0 rfl rfl 11 (by decide) w_1 (fun _ h9 => h9) rfl dX6_canDo_226 ?_
                        refine lv_bipush (v := nI 119) hx hb dX6_canDo_229 (by decide +kernel) ?_
                        refine icmp_neN (tgt := 245) hx hb (by omega) (by omega) dX6_canDo_231 (by decide) (fun c231 => ?_) (fun c231 => ?_)
                        · skip
                          omega
                        · skip
                          refine lv_aload_n hx hb dX6_canDo_234 rfl (lv_at hl 2 rfl) ?_
                          refine va_get (D := G.1) (ci := 6) (v := .ref a1) (C := RX6) (T := TX6) (N := 16) hx hb hts w_0 hown hE.1 hP 0 rfl rfl 0 (by decide) w_2 (fun _ h9 => h9) rfl dX6_canDo_235 ?_
                          refine lv_aload_n hx hb dX6_canDo_238 rfl (lv_at hl 2 rfl) ?_
                          refine va_get (D := G.1) (ci := 6) (v := .int (nI x)) (C := RX6) (T := TX6) (N := 16) hx hb hts w_0 hown hE.1 hP 0 rfl rfl 12 (by decide) w_3 (fun _ h9 => h9) rfl dX6_canDo_239 ?_
                          have hPc := hP.sub (ws' := [(a1, .inl (G.2.1, 97, .inl f))]) [1] rfl
                          have hDc := hD.sub (ws' := [(a1, .inl (G.2.1, 97, .inl f))]) [1] (by decide) rfl
                          refine mcall (st1 := []) (va_runS (As := [.ref a1, .int (nI x)]) (rest := []) ⟨hx, hb, hml, hown, hts⟩ (c_X6_passes l G a1 f (nI x)) (va_cwS 2 hts gX6_canDo_X6_passes rfl rfl rfl (by decide +kernel) ⟨Nat.le_of_ble_eq_true rfl, Nat.le_of_ble_eq_true rfl⟩) (PC.preS hE ⟨hPc, hDc.weaken (fun _ _ _ _ => trivial)⟩) rfl rfl hl.1 rfl (lv_room (Nat.le_of_ble_eq_true rfl)) dX6_canDo_242 ⟨Nat.zero_le _, Nat.zero_le _⟩) hS (fun q _ h => inW_D hDc q h) (fun q h => inW_D hDc q h) rfl (fun H1 locs1 hB hz1 hk1 hS => ?_)
                          obtain ⟨hP1, hD1⟩ := hB
                          obtain ⟨hP, hD⟩ := jnW (wr := [(ob, .inr (6, [.ref a1, .ref a2, .ref a3, .int (nI n), .ref a4, .int kp, .ref a5, .int (nI len), .int thr, .int (nI spot), .int bad, .int (nI 119), .int (nI x), .int (nI y), .int wh, .long hash])), (a2, .inl (G.2.1, 97, .inl th)), (a3, .inl (G.2.1, 582, .inl pa)), (a4, .inl (G.2.1, 97, .inl sn)), (a5, .inl (G.2.1, 60, .inl tx))]) (w1 := [(a1, .inl (G.2.1, 97, .inl (fPas f (nI x))))]) hP hD [1] [0, 2, 3, 4, 5] rfl rfl (by decide) (by decide) hk1 hP1 hD1
                          generalize H1 = H at hP hS ⊢
                          replace hP := hP.sub (ws' := [(ob, .inr (6, [.ref a1, .ref a2, .ref a3, .int (nI n), .ref a4, .int kp, .ref a5, .int (nI len), .int thr, .int (nI spot), .int bad, .int (nI 119), .int (nI x), .int (nI y), .int wh, .long hash])), (a1, .inl (G.2.1, 97, .inl (fPas f (nI x)))), (a2, .inl (G.2.1, 97, .inl th)), (a3, .inl (G.2.1, 582, .inl pa)), (a4, .inl (G.2.1, 97, .inl sn)), (a5, .inl (G.2.1, 60, .inl tx))]) [0, 5, 1, 2, 3, 4] rfl
                          replace hD := hD.sub (ws' := [(ob, .inr (6, [.ref a1, .ref a2, .ref a3, .int (nI n), .ref a4, .int kp, .ref a5, .int (nI len), .int thr, .int (nI spot), .int bad, .int (nI 119), .int (nI x), .int (nI y), .int wh, .long hash])), (a1, .inl (G.2.1, 97, .inl (fPas f (nI x)))), (a2, .inl (G.2.1, 97, .inl th)), (a3, .inl (G.2.1, 582, .inl pa)), (a4, .inl (G.2.1, 97, .inl sn)), (a5, .inl (G.2.1, 60, .inl tx))]) [0, 5, 1, 2, 3, 4] (by decide) rfl
                          have hP : va_P G.1 vwCl [(ob, .inr (6, [.ref a1, .ref a2, .ref a3, .int (nI n), .ref a4, .int kp, .ref a5, .int (nI len), .int thr, .int (nI spot), .int bad, .int (nI 119), .int (nI x), .int (nI y), .int wh, .long hash])), (a1, .inl (G.2.1, 97, .inl (fPas f (nI x)))), (a2, .inl (G.2.1, 97, .inl th)), (a3, .inl (G.2.1, 582, .inl pa)), (a4, .inl (G.2.1, 97, .inl sn)), (a5, .inl (G.2.1, 60, .inl tx))] H := hP
                          have hD : va_D A [(ob, .inr (6, [.ref a1, .ref a2, .ref a3, .int (nI n), .ref a4, .int kp, .ref a5, .int (nI len), .int thr, .int (nI spot), .int bad, .int (nI 119), .int (nI x), .int (nI y), .int wh, .long hash])), (a1, .inl (G.2.1, 97, .inl (fPas f (nI x)))), (a2, .inl (G.2.1, 97, .inl th)), (a3, .inl (G.2.1, 582, .inl pa)), (a4, .inl (G.2.1, 97, .inl sn)), (a5, .inl (G.2.1, 60, .inl tx))] := hD
                          refine lv_iload_n hx hb dX6_canDo_245 rfl (lv_at hl 1 rfl) ?_
                          refine lv_if_eq (tgt := 257) hx hb dX6_canDo_246 (by decide) (fun c246 => ?_) (fun c246 => ?_)
                          · skip
                            exact absurd c246 (by decide)
                          · skip
                            refine lv_iload_n hx hb dX6_canDo_249 rfl (lv_at hl 0 rfl) ?_
                            refine lv_if_lt (tgt := 257) hx hb dX6_canDo_250 (by decide) (fun c250 => ?_) (fun c250 => ?_)
                            · skip
                              exact absurd c250 (by decide)
                            · skip
                              refine lv_iconst (v := nI 1) hx hb dX6_canDo_253 (by decide +kernel) ?_
                              refine lv_goto (tgt := 258) hx hb dX6_canDo_254 (by decide) ?_
                              refine tS (st' := [.int (b2 (cnD f 119 x = true))]) (congrArg (fun z => [Value.int z]) ((b2_t (rfl)).symm)) ?_
                              exact W.zret hx hb hr (b2_z _) (fun t ht hW => ⟨rfl, by rw [ht]; exact ⟨hP, hD⟩, hS.F ht⟩) hS.2.2 dX6_canDo_258
                    · skip
                      omega
                  · skip
                    omega
                · skip
                  omega
              · skip
                omega
            · skip
              omega
          · skip
            exact absurd c110 (by decide)
        · skip
          omega
      · skip
        omega
    · skip
      omega
  · skip
    omega
set_option maxHeartbeats 4000000 in
set_option maxRecDepth 100000 in
theorem c_X6_canDo_d (l : Launch) (G : eG) (ob a1 a2 a3 a4 a5 : Nat) (f th pa sn tx : Nat → Int32) (n len spot : Nat) (kp thr bad lt one two wh : Int32) (hash : Int64) (B : Nat) (hB : B < 800000000) (ho : Okf B f) (x y : Nat) (hx5 : x ≤ 5) : Met l yX6_canDo wsX6_canDo ({ frames := 6, cells := 0, slots := 0, locals := 300 }) (PC [.ref ob] G (fun H => va_P G.1 vwCl [(ob, .inr (6, [.ref a1, .ref a2, .ref a3, .int (nI n), .ref a4, .int kp, .ref a5, .int (nI len), .int thr, .int (nI spot), .int bad, .int (nI 100), .int (nI x), .int (nI y), .int wh, .long hash])), (a1, .inl (G.2.1, 97, .inl f)), (a2, .inl (G.2.1, 97, .inl th)), (a3, .inl (G.2.1, 582, .inl pa)), (a4, .inl (G.2.1, 97, .inl sn)), (a5, .inl (G.2.1, 60, .inl tx))] H ∧ va_D (fun _ => True) [(ob, .inr (6, [.ref a1, .ref a2, .ref a3, .int (nI n), .ref a4, .int kp, .ref a5, .int (nI len), .int thr, .int (nI spot), .int bad, .int (nI 100), .int (nI x), .int (nI y), .int wh, .long hash])), (a1, .inl (G.2.1, 97, .inl f)), (a2, .inl (G.2.1, 97, .inl th)), (a3, .inl (G.2.1, 582, .inl pa)), (a4, .inl (G.2.1, 97, .inl sn)), (a5, .inl (G.2.1, 60, .inl tx))])) (MV (some (.int (b2 (cnD f 100 x = true)))) (fun H => va_P G.1 vwCl [(ob, .inr (6, [.ref a1, .ref a2, .ref a3, .int (nI n), .ref a4, .int kp, .ref a5, .int (nI len), .int thr, .int (nI spot), .int bad, .int (nI 100), .int (nI x), .int (nI y), .int wh, .long hash])), (a1, .inl (G.2.1, 97, .inl (exD f 100 x y))), (a2, .inl (G.2.1, 97, .inl th)), (a3, .inl (G.2.1, 582, .inl pa)), (a4, .inl (G.2.1, 97, .inl sn)), (a5, .inl (G.2.1, 60, .inl tx))] H ∧ va_D (inW [(ob, .inr (6, [.ref a1, .ref a2, .ref a3, .int (nI n), .ref a4, .int kp, .ref a5, .int (nI len), .int thr, .int (nI spot), .int bad, .int (nI 100), .int (nI x), .int (nI y), .int wh, .long hash])), (a1, .inl (G.2.1, 97, .inl f)), (a2, .inl (G.2.1, 97, .inl th)), (a3, .inl (G.2.1, 582, .inl pa)), (a4, .inl (G.2.1, 97, .inl sn)), (a5, .inl (G.2.1, 60, .inl tx))]) [(ob, .inr (6, [.ref a1, .ref a2, .ref a3, .int (nI n), .ref a4, .int kp, .ref a5, .int (nI len), .int thr, .int (nI spot), .int bad, .int (nI 100), .int (nI x), .int (nI y), .int wh, .long hash])), (a1, .inl (G.2.1, 97, .inl (exD f 100 x y))), (a2, .inl (G.2.1, 97, .inl th)), (a3, .inl (G.2.1, 582, .inl pa)), (a4, .inl (G.2.1, 97, .inl sn)), (a5, .inl (G.2.1, 60, .inl tx))]) (inW [(ob, .inr (6, [.ref a1, .ref a2, .ref a3, .int (nI n), .ref a4, .int kp, .ref a5, .int (nI len), .int thr, .int (nI spot), .int bad, .int (nI 100), .int (nI x), .int (nI y), .int wh, .long hash])), (a1, .inl (G.2.1, 97, .inl f)), (a2, .inl (G.2.1, 97, .inl th)), (a3, .inl (G.2.1, 582, .inl pa)), (a4, .inl (G.2.1, 97, .inl sn)), (a5, .inl (G.2.1, 60, .inl tx))])) 0 0 (inW [(ob, .inr (6, [.ref a1, .ref a2, .ref a3, .int (nI n), .ref a4, .int kp, .ref a5, .int (nI len), .int thr, .int (nI spot), .int bad, .int (nI 100), .int (nI x), .int (nI y), .int wh, .long hash])), (a1, .inl (G.2.1, 97, .inl f)), (a2, .inl (G.2.1, 97, .inl th)), (a3, .inl (G.2.1, 582, .inl pa)), (a4, .inl (G.2.1, 97, .inl sn)), (a5, .inl (G.2.1, 60, .inl tx))]) := by
  refine ofB (cc := cX6_canDo) (maxL := 3) (ret := (some .boolean)) (by decide) rfl (Nat.le_of_ble_eq_true rfl) ?_
  intro p e s m below meth c hx hb hr hlocks hml hown hin hts hE hI ls hl
  replace hown : s.vm.findClass RX6 = some m.cls := hown
  have hl : lv_has ls 3 [(0, .ref ob)] := hl
  obtain ⟨hP, hD0⟩ := hI
  have hD : va_D (inW [(ob, .inr (6, [.ref a1, .ref a2, .ref a3, .int (nI n), .ref a4, .int kp, .ref a5, .int (nI len), .int thr, .int (nI spot), .int bad, .int (nI 100), .int (nI x), .int (nI y), .int wh, .long hash])), (a1, .inl (G.2.1, 97, .inl f)), (a2, .inl (G.2.1, 97, .inl th)), (a3, .inl (G.2.1, 582, .inl pa)), (a4, .inl (G.2.1, 97, .inl sn)), (a5, .inl (G.2.1, 60, .inl tx))]) [(ob, .inr (6, [.ref a1, .ref a2, .ref a3, .int (nI n), .ref a4, .int kp, .ref a5, .int (nI len), .int thr, .int (nI spot), .int bad, .int (nI 100), .int (nI x), .int (nI y), .int wh, .long hash])), (a1, .inl (G.2.1, 97, .inl f)), (a2, .inl (G.2.1, 97, .inl th)), (a3, .inl (G.2.1, 582, .inl pa)), (a4, .inl (G.2.1, 97, .inl sn)), (a5, .inl (G.2.1, 60, .inl tx))] := D_self hD0
  obtain ⟨A, hAe⟩ : ∃ A, A = inW [(ob, .inr (6, [.ref a1, .ref a2, .ref a3, .int (nI n), .ref a4, .int kp, .ref a5, .int (nI len), .int thr, .int (nI spot), .int bad, .int (nI 100), .int (nI x), .int (nI y), .int wh, .long hash])), (a1, .inl (G.2.1, 97, .inl f)), (a2, .inl (G.2.1, 97, .inl th)), (a3, .inl (G.2.1, 582, .inl pa)), (a4, .inl (G.2.1, 97, .inl sn)), (a5, .inl (G.2.1, 60, .inl tx))] := ⟨_, rfl⟩
  rw [← hAe] at hD ⊢
  have hS : va_S A s.heap s.heap [] := va_S.rf
  obtain ⟨H, hHe⟩ : ∃ H, H = s.heap := ⟨_, rfl⟩
  obtain ⟨locs, hle⟩ : ∃ q : List Loc, q = [] := ⟨_, rfl⟩
  rw [← hle] at hS ⊢
  have hP : va_P G.1 vwCl [(ob, .inr (6, [.ref a1, .ref a2, .ref a3, .int (nI n), .ref a4, .int kp, .ref a5, .int (nI len), .int thr, .int (nI spot), .int bad, .int (nI 100), .int (nI x), .int (nI y), .int wh, .long hash])), (a1, .inl (G.2.1, 97, .inl f)), (a2, .inl (G.2.1, 97, .inl th)), (a3, .inl (G.2.1, 582, .inl pa)), (a4, .inl (G.2.1, 97, .inl sn)), (a5, .inl (G.2.1, 60, .inl tx))] H := by rw [hHe]; exact hP
  replace hS : va_S A s.heap H locs := by rw [hHe]; exact hS
  refine tH hHe ?_
  have w_0 : ∀ w ∈ u_ws RX6 TX6 16, w ∈ wsX6_canDo := by decide +kernel
  have w_1 := hts (.fieldLink RX6 136 "CableFerryModel" "letter" "I") (by decide +kernel)
  have w_2 := hts (.fieldLink RX6 7 "CableFerryModel" "now" "[I") (by decide +kernel)
  have w_3 := hts (.fieldLink RX6 139 "CableFerryModel" "one" "I") (by decide +kernel)
  have hs := okf_shp (by omega) ho
  have hd49 := ho.2.2.1.2.2.1
  have hd49b := hd49.2
  refine lv_aload_n hx hb dX6_canDo_0 rfl (lv_at hl 0 rfl) ?_
  refine va_get (D := G.1) (ci := 6) (v := .int (nI 100)) (C := RX6) (T := TX6) (N := 16) hx hb hts w_0 hown hE.1 hP 0 rfl rfl 11 (by decide) w_1 (fun _ h9 => h9) rfl dX6_canDo_1 ?_
  refine lv_bipush (v := nI 97) hx hb dX6_canDo_4 (by decide +kernel) ?_
  refine icmp_neN (tgt := 33) hx hb (by omega) (by omega) dX6_canDo_6 (by decide) (fun c6 => ?_) (fun c6 => ?_)
  · skip
    refine lv_aload_n hx hb dX6_canDo_33 rfl (lv_at hl 0 rfl) ?_
    refine va_get (D := G.1) (ci := 6) (v := .int (nI 100)) (C := RX6) (T := TX6) (N := 16) hx hb hts w_0 hown hE.1 hP 0 rfl rfl 11 (by decide) w_1 (fun _ h9 => h9) rfl dX6_canDo_34 ?_
    refine lv_bipush (v := nI 108) hx hb dX6_canDo_37 (by decide +kernel) ?_
    refine icmp_neN (tgt := 53) hx hb (by omega) (by omega) dX6_canDo_39 (by decide) (fun c39 => ?_) (fun c39 => ?_)
    · skip
      refine lv_aload_n hx hb dX6_canDo_53 rfl (lv_at hl 0 rfl) ?_
      refine va_get (D := G.1) (ci := 6) (v := .int (nI 100)) (C := RX6) (T := TX6) (N := 16) hx hb hts w_0 hown hE.1 hP 0 rfl rfl 11 (by decide) w_1 (fun _ h9 => h9) rfl dX6_canDo_54 ?_
      refine lv_bipush (v := nI 120) hx hb dX6_canDo_57 (by decide +kernel) ?_
      refine icmp_neN (tgt := 80) hx hb (by omega) (by omega) dX6_canDo_59 (by decide) (fun c59 => ?_) (fun c59 => ?_)
      · skip
        refine lv_aload_n hx hb dX6_canDo_80 rfl (lv_at hl 0 rfl) ?_
        refine va_get (D := G.1) (ci := 6) (v := .int (nI 100)) (C := RX6) (T := TX6) (N := 16) hx hb hts w_0 hown hE.1 hP 0 rfl rfl 11 (by decide) w_1 (fun _ h9 => h9) rfl dX6_canDo_81 ?_
        refine lv_bipush (v := nI 100) hx hb dX6_canDo_84 (by decide +kernel) ?_
        refine icmp_neN (tgt := 103) hx hb (by omega) (by omega) dX6_canDo_86 (by decide) (fun c86 => ?_) (fun c86 => ?_)
        · skip
          omega
        · skip
          refine lv_aload_n hx hb dX6_canDo_89 rfl (lv_at hl 0 rfl) ?_
          refine va_get (D := G.1) (ci := 6) (v := .ref a1) (C := RX6) (T := TX6) (N := 16) hx hb hts w_0 hown hE.1 hP 0 rfl rfl 0 (by decide) w_2 (fun _ h9 => h9) rfl dX6_canDo_90 ?_
          refine lv_bipush (v := nI 49) hx hb dX6_canDo_93 (by decide +kernel) ?_
          refine ialdN (k := 49) hx hb hE.1 hP 1 0 rfl rfl (by omega) (by decide) dX6_canDo_95 ?_
          refine tI (y := nI (nn f 49)) hd49.1 ?_
          refine lv_aload_n hx hb dX6_canDo_96 rfl (lv_at hl 0 rfl) ?_
          refine va_get (D := G.1) (ci := 6) (v := .int (nI x)) (C := RX6) (T := TX6) (N := 16) hx hb hts w_0 hown hE.1 hP 0 rfl rfl 12 (by decide) w_3 (fun _ h9 => h9) rfl dX6_canDo_97 ?_
          refine cutL (σ := Int32) (n := 3) (pc1 := 108) (fun r => r = b2 (cnD f 100 x = true)) (fun r => [(0, .ref ob)]) (fun r => [.int r]) ?_ (fun J108 => ?_)
          · rintro r ls hI hl
            replace hI : r = b2 (cnD f 100 x = true) := hI
            subst hI
            have hl : lv_has ls 3 [(0, .ref ob)] := hl
            refine tS (st' := [.int (b2 (cnD f 100 x = true))]) rfl ?_
            refine lv_istore_n (lv' := [(1, .int (b2 (cnD f 100 x = true))), (0, .ref ob)]) hx hb dX6_canDo_108 rfl hl (by decide) rfl (fun ls hl => ?_)
            refine lv_iload_n hx hb dX6_canDo_109 rfl (lv_at hl 0 rfl) ?_
            refine lv_if_ne (tgt := 117) hx hb dX6_canDo_110 (by decide) (fun c110 => ?_) (fun c110 => ?_)
            · skip
              have hb9 : b2 (cnD f 100 x = true) = nI 1 := b2_t (b2_1.mp c110)
              rw [hb9] at hl
              have hl : lv_has ls 3 [(1, .int (nI 1)), (0, .ref ob)] := hl
              refine lv_aload_n hx hb dX6_canDo_117 rfl (lv_at hl 1 rfl) ?_
              refine va_get (D := G.1) (ci := 6) (v := .int (nI 100)) (C := RX6) (T := TX6) (N := 16) hx hb hts w_0 hown hE.1 hP 0 rfl rfl 11 (by decide) w_1 (fun _ h9 => h9) rfl dX6_canDo_118 ?_
              refine lv_bipush (v := nI 97) hx hb dX6_canDo_121 (by decide +kernel) ?_
              refine icmp_neN (tgt := 141) hx hb (by omega) (by omega) dX6_canDo_123 (by decide) (fun c123 => ?_) (fun c123 => ?_)
              · skip
                refine lv_aload_n hx hb dX6_canDo_141 rfl (lv_at hl 1 rfl) ?_
                refine va_get (D := G.1) (ci := 6) (v := .int (nI 100)) (C := RX6) (T := TX6) (N := 16) hx hb hts w_0 hown hE.1 hP 0 rfl rfl 11 (by decide) w_1 (fun _ h9 => h9) rfl dX6_canDo_142 ?_
                refine lv_bipush (v := nI 108) hx hb dX6_canDo_145 (by decide +kernel) ?_
                refine icmp_neN (tgt := 161) hx hb (by omega) (by omega) dX6_canDo_147 (by decide) (fun c147 => ?_) (fun c147 => ?_)
                · skip
                  refine lv_aload_n hx hb dX6_canDo_161 rfl (lv_at hl 1 rfl) ?_
                  refine va_get (D := G.1) (ci := 6) (v := .int (nI 100)) (C := RX6) (T := TX6) (N := 16) hx hb hts w_0 hown hE.1 hP 0 rfl rfl 11 (by decide) w_1 (fun _ h9 => h9) rfl dX6_canDo_162 ?_
                  refine lv_bipush (v := nI 117) hx hb dX6_canDo_165 (by decide +kernel) ?_
                  refine icmp_neN (tgt := 177) hx hb (by omega) (by omega) dX6_canDo_167 (by decide) (fun c167 => ?_) (fun c167 => ?_)
                  · skip
                    refine lv_aload_n hx hb dX6_canDo_177 rfl (lv_at hl 1 rfl) ?_
                    refine va_get (D := G.1) (ci := 6) (v := .int (nI 100)) (C := RX6) (T := TX6) (N := 16) hx hb hts w_0 hown hE.1 hP 0 rfl rfl 11 (by decide) w_1 (fun _ h9 => h9) rfl dX6_canDo_178 ?_
                    refine lv_bipush (v := nI 120) hx hb dX6_canDo_181 (by decide +kernel) ?_
                    refine icmp_neN (tgt := 196) hx hb (by omega) (by omega) dX6_canDo_183 (by decide) (fun c183 => ?_) (fun c183 => ?_)
                    · skip
                      refine lv_aload_n hx hb dX6_canDo_196 rfl (lv_at hl 1 rfl) ?_
                      refine va_get (D := G.1) (ci := 6) (v := .int (nI 100)) (C := RX6) (T := TX6) (N := 16) hx hb hts w_0 hown hE.1 hP 0 rfl rfl 11 (by decide) w_1 (fun _ h9 => h9) rfl dX6_canDo_197 ?_
                      refine lv_bipush (v := nI 100) hx hb dX6_canDo_200 (by decide +kernel) ?_
                      refine icmp_neN (tgt := 219) hx hb (by omega) (by omega) dX6_canDo_202 (by decide) (fun c202 => ?_) (fun c202 => ?_)
                      · skip
                        omega
                      · skip
                        have hxd : x ≤ nn f 49 := by simpa [cnD] using b2_1.mp c110
                        refine lv_aload_n hx hb dX6_canDo_205 rfl (lv_at hl 1 rfl) ?_
                        refine va_get (D := G.1) (ci := 6) (v := .ref a1) (C := RX6) (T := TX6) (N := 16) hx hb hts w_0 hown hE.1 hP 0 rfl rfl 0 (by decide) w_2 (fun _ h9 => h9) rfl dX6_canDo_206 ?_
                        refine lv_aload_n hx hb dX6_canDo_209 rfl (lv_at hl 1 rfl) ?_
                        refine va_get (D := G.1) (ci := 6) (v := .int (nI x)) (C := RX6) (T := TX6) (N := 16) hx hb hts w_0 hown hE.1 hP 0 rfl rfl 12 (by decide) w_3 (fun _ h9 => h9) rfl dX6_canDo_210 ?_
                        have hPc := hP.sub (ws' := [(a1, .inl (G.2.1, 97, .inl f))]) [1] rfl
                        have hDc := hD.sub (ws' := [(a1, .inl (G.2.1, 97, .inl f))]) [1] (by decide) rfl
                        refine mcall (st1 := [.int (f 49 - nI x)]) (va_runS (As := [.ref a1, .int (nI x)]) (rest := []) ⟨hx, hb, hml, hown, hts⟩ (c_X6_draws l G a1 f x (by omega)) (va_cwS 2 hts gX6_canDo_X6_draws rfl rfl rfl (by decide +kernel) ⟨Nat.le_of_ble_eq_true rfl, Nat.le_of_ble_eq_true rfl⟩) (PC.preS hE ⟨hPc, hDc.weaken (fun _ _ _ _ => trivial)⟩) rfl rfl hl.1 rfl (lv_room (Nat.le_of_ble_eq_true rfl)) dX6_canDo_213 ⟨Nat.zero_le _, Nat.zero_le _⟩) hS (fun q _ h => inW_D hDc q h) (fun q h => inW_D hDc q h) rfl (fun H1 locs1 hB hz1 hk1 hS => ?_)
                        obtain ⟨hP1, hD1⟩ := hB
                        obtain ⟨hP, hD⟩ := jnW (wr := [(ob, .inr (6, [.ref a1, .ref a2, .ref a3, .int (nI n), .ref a4, .int kp, .ref a5, .int (nI len), .int thr, .int (nI spot), .int bad, .int (nI 100), .int (nI x), .int (nI y), .int wh, .long hash])), (a2, .inl (G.2.1, 97, .inl th)), (a3, .inl (G.2.1, 582, .inl pa)), (a4, .inl (G.2.1, 97, .inl sn)), (a5, .inl (G.2.1, 60, .inl tx))]) (w1 := [(a1, .inl (G.2.1, 97, .inl (fDrw f x)))]) hP hD [1] [0, 2, 3, 4, 5] rfl rfl (by decide) (by decide) hk1 hP1 hD1
                        generalize H1 = H at hP hS ⊢
                        replace hP := hP.sub (ws' := [(ob, .inr (6, [.ref a1, .ref a2, .ref a3, .int (nI n), .ref a4, .int kp, .ref a5, .int (nI len), .int thr, .int (nI spot), .int bad, .int (nI 100), .int (nI x), .int (nI y), .int wh, .long hash])), (a1, .inl (G.2.1, 97, .inl (fDrw f x))), (a2, .inl (G.2.1, 97, .inl th)), (a3, .inl (G.2.1, 582, .inl pa)), (a4, .inl (G.2.1, 97, .inl sn)), (a5, .inl (G.2.1, 60, .inl tx))]) [0, 5, 1, 2, 3, 4] rfl
                        replace hD := hD.sub (ws' := [(ob, .inr (6, [.ref a1, .ref a2, .ref a3, .int (nI n), .ref a4, .int kp, .ref a5, .int (nI len), .int thr, .int (nI spot), .int bad, .int (nI 100), .int (nI x), .int (nI y), .int wh, .long hash])), (a1, .inl (G.2.1, 97, .inl (fDrw f x))), (a2, .inl (G.2.1, 97, .inl th)), (a3, .inl (G.2.1, 582, .inl pa)), (a4, .inl (G.2.1, 97, .inl sn)), (a5, .inl (G.2.1, 60, .inl tx))]) [0, 5, 1, 2, 3, 4] (by decide) rfl
                        have hP : va_P G.1 vwCl [(ob, .inr (6, [.ref a1, .ref a2, .ref a3, .int (nI n), .ref a4, .int kp, .ref a5, .int (nI len), .int thr, .int (nI spot), .int bad, .int (nI 100), .int (nI x), .int (nI y), .int wh, .long hash])), (a1, .inl (G.2.1, 97, .inl (fDrw f x))), (a2, .inl (G.2.1, 97, .inl th)), (a3, .inl (G.2.1, 582, .inl pa)), (a4, .inl (G.2.1, 97, .inl sn)), (a5, .inl (G.2.1, 60, .inl tx))] H := hP
                        have hD : va_D A [(ob, .inr (6, [.ref a1, .ref a2, .ref a3, .int (nI n), .ref a4, .int kp, .ref a5, .int (nI len), .int thr, .int (nI spot), .int bad, .int (nI 100), .int (nI x), .int (nI y), .int wh, .long hash])), (a1, .inl (G.2.1, 97, .inl (fDrw f x))), (a2, .inl (G.2.1, 97, .inl th)), (a3, .inl (G.2.1, 582, .inl pa)), (a4, .inl (G.2.1, 97, .inl sn)), (a5, .inl (G.2.1, 60, .inl tx))] := hD
                        refine lv_goto (tgt := 220) hx hb dX6_canDo_216 (by decide) ?_
                        refine tI (y := nI (nn f 49 - x)) (by rw [hd49.1, pk_sub hxd]) ?_
                        refine lv_istore_n (lv' := [(2, .int (nI (nn f 49 - x))), (1, .int (nI 1)), (0, .ref ob)]) hx hb dX6_canDo_220 rfl hl (by decide) rfl (fun ls hl => ?_)
                        refine lv_iload_n hx hb dX6_canDo_221 rfl (lv_at hl 1 rfl) ?_
                        refine lv_if_eq (tgt := 245) hx hb dX6_canDo_222 (by decide) (fun c222 => ?_) (fun c222 => ?_)
                        · skip
                          exact absurd c222 (by decide)
                        · skip
                          refine lv_aload_n hx hb dX6_canDo_225 rfl (lv_at hl 2 rfl) ?_
                          refine va_get (D := G.1) (ci := 6) (v := .int (nI 100)) (C := RX6) (T := TX6) (N := 16) hx hb hts w_0 hown hE.1 hP 0 rfl rfl 11 (by decide) w_1 (fun _ h9 => h9) rfl dX6_canDo_226 ?_
                          refine lv_bipush (v := nI 119) hx hb dX6_canDo_229 (by decide +kernel) ?_
                          refine icmp_neN (tgt := 245) hx hb (by omega) (by omega) dX6_canDo_231 (by decide) (fun c231 => ?_) (fun c231 => ?_)
                          · skip
                            refine lv_iload_n hx hb dX6_canDo_245 rfl (lv_at hl 1 rfl) ?_
                            refine lv_if_eq (tgt := 257) hx hb dX6_canDo_246 (by decide) (fun c246 => ?_) (fun c246 => ?_)
                            · skip
                              exact absurd c246 (by decide)
                            · skip
                              refine lv_iload_n hx hb dX6_canDo_249 rfl (lv_at hl 0 rfl) ?_
                              refine lv_if_lt (tgt := 257) hx hb dX6_canDo_250 (by decide) (fun c250 => ?_) (fun c250 => ?_)
                              · skip
                                exact absurd c250 (nI_pos (by omega))
                              · skip
                                refine lv_iconst (v := nI 1) hx hb dX6_canDo_253 (by decide +kernel) ?_
                                refine lv_goto (tgt := 258) hx hb dX6_canDo_254 (by decide) ?_
                                refine tS (st' := [.int (b2 (cnD f 100 x = true))]) (congrArg (fun z => [Value.int z]) ((b2_t (b2_1.mp c110)).symm)) ?_
                                exact W.zret hx hb hr (b2_z _) (fun t ht hW => ⟨rfl, by rw [ht]; exact (by unfold exD; rw [if_pos (b2_1.mp c110)]; exact ⟨hP, hD⟩), hS.F ht⟩) hS.2.2 dX6_canDo_258
                          · skip
                            omega
                    · skip
                      omega
                  · skip
                    omega
                · skip
                  omega
              · skip
                omega
            · skip
              have hb9 : b2 (cnD f 100 x = true) = nI 0 := b2_f (b2_0.mp c110)
              rw [hb9] at hl
              have hl : lv_has ls 3 [(1, .int (nI 0)), (0, .ref ob)] := hl
              refine lv_iconst (v := nI 0) hx hb dX6_canDo_113 (by decide +kernel) ?_
              refine lv_goto (tgt := 220) hx hb dX6_canDo_114 (by decide) ?_
              refine lv_istore_n (lv' := [(2, .int (nI 0)), (1, .int (nI 0)), (0, .ref ob)]) hx hb dX6_canDo_220 rfl hl (by decide) rfl (fun ls hl => ?_)
              refine lv_iload_n hx hb dX6_canDo_221 rfl (lv_at hl 1 rfl) ?_
              refine lv_if_eq (tgt := 245) hx hb dX6_canDo_222 (by decide) (fun c222 => ?_) (fun c222 => ?_)
              · skip
                refine lv_iload_n hx hb dX6_canDo_245 rfl (lv_at hl 1 rfl) ?_
                refine lv_if_eq (tgt := 257) hx hb dX6_canDo_246 (by decide) (fun c246 => ?_) (fun c246 => ?_)
                · skip
                  refine lv_iconst (v := nI 0) hx hb dX6_canDo_257 (by decide +kernel) ?_
                  refine tS (st' := [.int (b2 (cnD f 100 x = true))]) (congrArg (fun z => [Value.int z]) ((b2_f (b2_0.mp c110)).symm)) ?_
                  exact W.zret hx hb hr (b2_z _) (fun t ht hW => ⟨rfl, by rw [ht]; exact (by unfold exD; rw [if_neg (b2_0.mp c110)]; exact ⟨hP, hD⟩), hS.F ht⟩) hS.2.2 dX6_canDo_258
                · skip
                  exact absurd c246 (by decide)
              · skip
                exact absurd c222 (by decide)
          · skip
            refine icmp_ltN (tgt := 107) hx hb (by omega) (by omega) dX6_canDo_100 (by decide) (fun c100 => ?_) (fun c100 => ?_)
            · skip
              refine lv_iconst (v := nI 0) hx hb dX6_canDo_107 (by decide +kernel) ?_
              exact J108 (nI 0) _ (by simp only [b2, show cnD f 100 x = decide (x ≤ nn f 49) from rfl, decide_eq_true_eq]; split <;> first | rfl | omega) (lv_sub hl [0] rfl)
            · skip
              refine lv_iconst (v := nI 1) hx hb dX6_canDo_103 (by decide +kernel) ?_
              refine lv_goto (tgt := 108) hx hb dX6_canDo_104 (by decide) ?_
              exact J108 (nI 1) _ (by simp only [b2, show cnD f 100 x = decide (x ≤ nn f 49) from rfl, decide_eq_true_eq]; split <;> first | rfl | omega) (lv_sub hl [0] rfl)
      · skip
        omega
    · skip
      omega
  · skip
    omega
