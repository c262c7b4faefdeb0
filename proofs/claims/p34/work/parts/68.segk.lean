theorem PR_mono {B B' : Nat} {f sf : Nat → Int32} {ff : Nat → Nat → Int32} {old sz len : Nat} {tx : Nat → Int32} {hsn : Int32} (hb : B ≤ B') (h : PR B f sf ff old sz len tx hsn) : PR B' f sf ff old sz len tx hsn := ⟨okf_mono hb h.1, okf_mono hb h.2.1, fun k hk => okf_mono hb (h.2.2.1 k hk), h.2.2.2⟩
theorem hOld_lt6 {old sz : Nat} (h : old < 6) : hOld old sz < 6 := hOld_lt h
theorem PR_sav {B B' : Nat} {f sf : Nat → Int32} {ff : Nat → Nat → Int32} {old sz len : Nat} {tx : Nat → Int32} {hsn : Int32} {f' : Nat → Int32} (hb : B ≤ B') (h : PR B f sf ff old sz len tx hsn) (h' : Okf B' f') : PR B' f' sf (rgS ff (hAt old sz) f) (hOld old sz) (svM sz) len tx hsn := by
  obtain ⟨h1, h2, h3, h4, h5, h6, h7⟩ := h
  exact ⟨h', okf_mono hb h2, rg_okf (fun k hk => okf_mono hb (h3 k hk)) (okf_mono hb h1), hOld_lt h4, svM_le h5, h6, h7⟩
theorem PR_len0 {B : Nat} {f sf : Nat → Int32} {ff : Nat → Nat → Int32} {old sz len : Nat} {tx : Nat → Int32} {hsn : Int32} (h : PR B f sf ff old sz len tx hsn) : PR B f sf ff old sz 0 tx hsn := ⟨h.1, h.2.1, h.2.2.1, h.2.2.2.1, h.2.2.2.2.1, ⟨Nat.zero_le _, fun k hk => absurd hk (Nat.not_lt_zero _)⟩, h.2.2.2.2.2.2⟩
theorem PR_app {B : Nat} {f sf : Nat → Int32} {ff : Nat → Nat → Int32} {old sz len : Nat} {tx : Nat → Int32} {hsn : Int32} {q : Nat} (h : PR B f sf ff old sz len tx hsn) (hl : len < 60) (h2 : q ≤ 126) : PR B f sf ff old sz (len + 1) (upd tx len (nI q)) hsn := by
  obtain ⟨a1, a2, a3, a4, a5, a6, a7⟩ := h
  refine ⟨a1, a2, a3, a4, a5, ⟨by omega, fun k hk => ?_⟩, a7⟩
  by_cases e : k = len
  · subst e
    rw [(nn_app h2).2, pk_us]
    exact ⟨rfl, by omega⟩
  · rw [(nn_app h2).1 k (by omega), pk_un e]
    exact a6.2 k (by omega)
theorem PR_f {B : Nat} {f sf : Nat → Int32} {ff : Nat → Nat → Int32} {old sz len : Nat} {tx : Nat → Int32} {hsn : Int32} {f' : Nat → Int32} (h : PR B f sf ff old sz len tx hsn) (h' : Okf B f') : PR B f' sf ff old sz len tx hsn := ⟨h', h.2⟩
theorem PR_sf {B : Nat} {f sf : Nat → Int32} {ff : Nat → Nat → Int32} {old sz len : Nat} {tx : Nat → Int32} {hsn : Int32} (h : PR B f sf ff old sz len tx hsn) : PR B f f ff old sz len tx (nI 1) := ⟨h.1, h.1, h.2.2.1, h.2.2.2.1, h.2.2.2.2.1, h.2.2.2.2.2.1, Or.inr rfl⟩
theorem PR_sz {B z : Nat} {f sf : Nat → Int32} {ff : Nat → Nat → Int32} {old sz len : Nat} {tx : Nat → Int32} {hsn : Int32} (hz : z ≤ sz) (h : PR B f sf ff old sz len tx hsn) : PR B f sf ff old z len tx hsn := ⟨h.1, h.2.1, h.2.2.1, h.2.2.2.1, Nat.le_trans hz h.2.2.2.2.1, h.2.2.2.2.2⟩
section KSG
variable {p : Program} {l : Launch} {e : Env} {R : Room} {s : State} {m : MethodId} {args : Array Value} {below : List Frame} {meth : Method} {c : Code} {H : Heap} {locs : List Loc} {cells slots : Nat} {Q : State → Prop}
variable {cc : ByteArray} {pc : Nat} {ls : Array Slot} {rest : List Value}
theorem lv_lcmpE (hexec : p.tables.exec = Jvm.exec) (hb : c.code = cc) {x : Int64} (hdg : decode cc pc = .ok (.lcmp, 1)) (k : W p l e R s m args below meth c H locs cells slots Q (F0 m (pc + 1) ls (.int (nI 0) :: rest))) : W p l e R s m args below meth c H locs cells slots Q (F0 m pc ls (.long x :: .long x :: rest)) := by
  intro T hT X
  obtain ⟨t, a, b⟩ := k T hT X
  refine ⟨t, ?_, b⟩
  have h1 : ¬ x < x := by rw [Int64.lt_iff_toInt_lt]; omega
  jvm_step X.here [X.here.top, hexec, hb, hdg, h1]
  exact a
end KSG
