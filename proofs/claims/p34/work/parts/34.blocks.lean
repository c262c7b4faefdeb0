/-! worlds in blocks: any order, the first cut off and put back -/
theorem P_iff {D : va_G} {cl : List vw_C} {ws : va_W} {H : Heap} : va_P D cl ws H ↔ ∀ q, q ∈ ws → va_at D cl q H := by
  constructor
  · intro h q hq
    obtain ⟨i, hi⟩ := List.getElem?_of_mem hq
    exact h i q hi
  · intro h k q hq
    exact h q (List.mem_of_getElem? hq)
theorem P_perm {D : va_G} {cl : List vw_C} {ws ws' : va_W} {H : Heap} (p : List.Perm ws ws') (h : va_P D cl ws H) : va_P D cl ws' H := P_iff.mpr fun q hq => P_iff.mp h q (p.mem_iff.mpr hq)
theorem D_iff {A : Nat → Prop} {ws : va_W} : va_D A ws ↔ (ws.map Prod.fst).Nodup ∧ ∀ q, q ∈ ws → A q.1 := by
  constructor
  · intro h
    refine ⟨?_, fun q hq => ?_⟩
    · rw [List.nodup_iff_pairwise_ne, List.pairwise_iff_getElem]
      intro i j hi hj hij e
      rw [List.getElem_map, List.getElem_map] at e
      rw [List.length_map] at hi hj
      have := h.1 i j ws[i] ws[j] (List.getElem?_eq_getElem hi) (List.getElem?_eq_getElem hj) e
      omega
    · obtain ⟨i, hi⟩ := List.getElem?_of_mem hq
      exact h.2 i q hi
  · intro h
    refine ⟨fun i j p q hp hq e => ?_, fun k q hq => h.2 q (List.mem_of_getElem? hq)⟩
    have hn := h.1
    rw [List.nodup_iff_pairwise_ne, List.pairwise_iff_getElem] at hn
    obtain ⟨hi, ei⟩ := List.getElem?_eq_some_iff.mp hp
    obtain ⟨hj, ej⟩ := List.getElem?_eq_some_iff.mp hq
    rcases Nat.lt_trichotomy i j with l | l | l
    · exact absurd (by rw [List.getElem_map, List.getElem_map, ei, ej]; exact e) (hn i j (by rw [List.length_map]; exact hi) (by rw [List.length_map]; exact hj) l)
    · exact l
    · exact absurd (by rw [List.getElem_map, List.getElem_map, ei, ej]; exact e.symm) (hn j i (by rw [List.length_map]; exact hj) (by rw [List.length_map]; exact hi) l)
theorem D_perm {A : Nat → Prop} {ws ws' : va_W} (p : List.Perm ws ws') (h : va_D A ws) : va_D A ws' := by
  rw [D_iff] at *
  exact ⟨(p.map Prod.fst).nodup_iff.mp h.1, fun q hq => h.2 q (p.mem_iff.mpr hq)⟩
theorem P_pre {D : va_G} {cl : List vw_C} {w r : va_W} {H : Heap} (h : va_P D cl (w ++ r) H) : va_P D cl w H := P_iff.mpr fun q hq => P_iff.mp h q (List.mem_append_left _ hq)
theorem D_pre {A : Nat → Prop} {w r : va_W} (h : va_D A (w ++ r)) : va_D A w := by
  rw [D_iff] at *
  rw [List.map_append, List.nodup_append] at h
  exact ⟨h.1.1, fun q hq => h.2 q (List.mem_append_left _ hq)⟩
theorem inW_m {ws : va_W} {a : Nat} : inW ws a ↔ a ∈ ws.map Prod.fst := by
  constructor
  · intro h
    obtain ⟨k, e, h⟩ := h
    exact List.mem_map.mpr ⟨(a, e), List.mem_of_getElem? h, rfl⟩
  · intro h
    obtain ⟨q, hq, e⟩ := List.mem_map.mp h
    obtain ⟨i, hi⟩ := List.getElem?_of_mem hq
    exact ⟨i, q.2, by rw [← e]; exact hi⟩
theorem jnF {A : Nat → Prop} {D : va_G} {cl : List vw_C} {wc wr w1 : va_W} {H H1 : Heap} (hP : va_P D cl (wc ++ wr) H) (hD : va_D A (wc ++ wr)) (hk : ∀ q : Nat, q < H.size → ¬ inW wc q → H1[q]? = H[q]?) (hP1 : va_P D cl w1 H1) (hD1 : va_D (inW wc) w1) : va_P D cl (w1 ++ wr) H1 ∧ va_D A (w1 ++ wr) := by
  have hA : ∀ q, q ∈ wc ++ wr → A q.1 := (D_iff.mp hD).2
  have hn := (D_iff.mp hD).1
  rw [List.map_append, List.nodup_append] at hn
  have hP' := P_iff.mp hP
  have ap : ∀ q, q ∈ wr → ¬ inW wc q.1 := fun q hq h => hn.2.2 _ (inW_m.mp h) _ (List.mem_map.mpr ⟨q, hq, rfl⟩) rfl
  have hn1 := (D_iff.mp hD1).1
  have hA1 := (D_iff.mp hD1).2
  refine ⟨P_iff.mpr fun q hq => ?_, D_iff.mpr ⟨?_, fun q hq => ?_⟩⟩
  · rcases List.mem_append.mp hq with h | h
    · exact P_iff.mp hP1 q h
    · have := hP' q (List.mem_append_right _ h)
      exact this.kept (hk q.1 this.lt (ap q h))
  · rw [List.map_append, List.nodup_append]
    refine ⟨hn1, hn.2.1, fun a ha b hb e => ?_⟩
    obtain ⟨q, hq, rfl⟩ := List.mem_map.mp ha
    obtain ⟨r, hr, rfl⟩ := List.mem_map.mp hb
    exact ap r hr (by rw [← e]; exact hA1 q hq)
  · rcases List.mem_append.mp hq with h | h
    · obtain ⟨r, hr, e⟩ := List.mem_map.mp (inW_m.mp (hA1 q h))
      rw [← e]
      exact hA r (List.mem_append_left _ hr)
    · exact hA q (List.mem_append_right _ h)
theorem br1 {a b r : va_W} : List.Perm (a ++ (b ++ r)) (b ++ (a ++ r)) := by
  rw [← List.append_assoc, ← List.append_assoc]
  exact List.Perm.append_right r List.perm_append_comm
theorem br2 {a1 a2 b r : va_W} : List.Perm (a1 ++ (a2 ++ (b ++ r))) (b ++ (a1 ++ (a2 ++ r))) := (List.Perm.append_left a1 br1).trans br1
theorem br3 {a1 a2 a3 b r : va_W} : List.Perm (a1 ++ (a2 ++ (a3 ++ (b ++ r)))) (b ++ (a1 ++ (a2 ++ (a3 ++ r)))) := (List.Perm.append_left a1 br2).trans br1
theorem br4 {a1 a2 a3 a4 b r : va_W} : List.Perm (a1 ++ (a2 ++ (a3 ++ (a4 ++ (b ++ r))))) (b ++ (a1 ++ (a2 ++ (a3 ++ (a4 ++ r))))) := (List.Perm.append_left a1 br3).trans br1
theorem br5 {a1 a2 a3 a4 a5 b r : va_W} : List.Perm (a1 ++ (a2 ++ (a3 ++ (a4 ++ (a5 ++ (b ++ r)))))) (b ++ (a1 ++ (a2 ++ (a3 ++ (a4 ++ (a5 ++ r)))))) := (List.Perm.append_left a1 br4).trans br1
theorem br6 {a1 a2 a3 a4 a5 a6 b r : va_W} : List.Perm (a1 ++ (a2 ++ (a3 ++ (a4 ++ (a5 ++ (a6 ++ (b ++ r))))))) (b ++ (a1 ++ (a2 ++ (a3 ++ (a4 ++ (a5 ++ (a6 ++ r))))))) := (List.Perm.append_left a1 br5).trans br1
theorem br7 {a1 a2 a3 a4 a5 a6 a7 b r : va_W} : List.Perm (a1 ++ (a2 ++ (a3 ++ (a4 ++ (a5 ++ (a6 ++ (a7 ++ (b ++ r)))))))) (b ++ (a1 ++ (a2 ++ (a3 ++ (a4 ++ (a5 ++ (a6 ++ (a7 ++ r)))))))) := (List.Perm.append_left a1 br6).trans br1
theorem br8 {a1 a2 a3 a4 a5 a6 a7 a8 b r : va_W} : List.Perm (a1 ++ (a2 ++ (a3 ++ (a4 ++ (a5 ++ (a6 ++ (a7 ++ (a8 ++ (b ++ r))))))))) (b ++ (a1 ++ (a2 ++ (a3 ++ (a4 ++ (a5 ++ (a6 ++ (a7 ++ (a8 ++ r))))))))) := (List.Perm.append_left a1 br7).trans br1
theorem br9 {a1 a2 a3 a4 a5 a6 a7 a8 a9 b r : va_W} : List.Perm (a1 ++ (a2 ++ (a3 ++ (a4 ++ (a5 ++ (a6 ++ (a7 ++ (a8 ++ (a9 ++ (b ++ r)))))))))) (b ++ (a1 ++ (a2 ++ (a3 ++ (a4 ++ (a5 ++ (a6 ++ (a7 ++ (a8 ++ (a9 ++ r)))))))))) := (List.Perm.append_left a1 br8).trans br1
theorem br10 {a1 a2 a3 a4 a5 a6 a7 a8 a9 a10 b r : va_W} : List.Perm (a1 ++ (a2 ++ (a3 ++ (a4 ++ (a5 ++ (a6 ++ (a7 ++ (a8 ++ (a9 ++ (a10 ++ (b ++ r))))))))))) (b ++ (a1 ++ (a2 ++ (a3 ++ (a4 ++ (a5 ++ (a6 ++ (a7 ++ (a8 ++ (a9 ++ (a10 ++ r))))))))))) := (List.Perm.append_left a1 br9).trans br1
theorem br11 {a1 a2 a3 a4 a5 a6 a7 a8 a9 a10 a11 b r : va_W} : List.Perm (a1 ++ (a2 ++ (a3 ++ (a4 ++ (a5 ++ (a6 ++ (a7 ++ (a8 ++ (a9 ++ (a10 ++ (a11 ++ (b ++ r)))))))))))) (b ++ (a1 ++ (a2 ++ (a3 ++ (a4 ++ (a5 ++ (a6 ++ (a7 ++ (a8 ++ (a9 ++ (a10 ++ (a11 ++ r)))))))))))) := (List.Perm.append_left a1 br10).trans br1
theorem br12 {a1 a2 a3 a4 a5 a6 a7 a8 a9 a10 a11 a12 b r : va_W} : List.Perm (a1 ++ (a2 ++ (a3 ++ (a4 ++ (a5 ++ (a6 ++ (a7 ++ (a8 ++ (a9 ++ (a10 ++ (a11 ++ (a12 ++ (b ++ r))))))))))))) (b ++ (a1 ++ (a2 ++ (a3 ++ (a4 ++ (a5 ++ (a6 ++ (a7 ++ (a8 ++ (a9 ++ (a10 ++ (a11 ++ (a12 ++ r))))))))))))) := (List.Perm.append_left a1 br11).trans br1
theorem br13 {a1 a2 a3 a4 a5 a6 a7 a8 a9 a10 a11 a12 a13 b r : va_W} : List.Perm (a1 ++ (a2 ++ (a3 ++ (a4 ++ (a5 ++ (a6 ++ (a7 ++ (a8 ++ (a9 ++ (a10 ++ (a11 ++ (a12 ++ (a13 ++ (b ++ r)))))))))))))) (b ++ (a1 ++ (a2 ++ (a3 ++ (a4 ++ (a5 ++ (a6 ++ (a7 ++ (a8 ++ (a9 ++ (a10 ++ (a11 ++ (a12 ++ (a13 ++ r)))))))))))))) := (List.Perm.append_left a1 br12).trans br1
/-- a State's 17 cells at the addresses A, what is behind the lines' ends in w -/
def cST (G : eG) (A : Nat → Nat) (f : Nat → Int32) (v0 v1 : Int32) (w : Nat → Nat → Int32) : va_W := [(A 0, .inr (3, [.ref (A 1), .ref (A 2), .ref (A 3), .ref (A 6), .ref (A 9), .ref (A 12), .ref (A 15), .int (f 50), .int (f 51), .int (f 52), .int (f 53), .int (f 54), .int (f 55), .int (f 56)])), (A 1, .inl (G.2.1, 24, .inl (fun j => f (3 + j)))), (A 2, .inl (G.2.1, 3, .inl f)), (A 3, .inr (1, [.ref (A 4), .ref (A 5), .int (nI (nn f 57)), .int v0])), (A 4, .inl (G.2.1, 10, .inl (w 0))), (A 5, .inl (G.2.1, 10, .inl (w 1))), (A 6, .inr (1, [.ref (A 7), .ref (A 8), .int (nI (nn f 68)), .int v1])), (A 7, .inl (G.2.1, 10, .inl (w 2))), (A 8, .inl (G.2.1, 10, .inl (w 3))), (A 9, .inr (1, [.ref (A 10), .ref (A 11), .int (nI (nn f 79)), .int (fLw f 0)])), (A 10, .inl (G.2.1, 4, .inl (w 4))), (A 11, .inl (G.2.1, 4, .inl (w 5))), (A 12, .inr (1, [.ref (A 13), .ref (A 14), .int (nI (nn f 88)), .int (fLw f 1)])), (A 13, .inl (G.2.1, 4, .inl (w 6))), (A 14, .inl (G.2.1, 4, .inl (w 7))), (A 15, .inr (4, [.ref (A 16), .int (f 47), .int (f 48), .int (f 49)])), (A 16, .inl (G.2.1, 20, .inl (fun j => f (27 + j))))]
/-- the history's own two cells -/
def cHI (G : eG) (h sv : Nat) (old sz : Nat) (ad : Nat → Nat) : va_W := [(h, .inr (0, [.ref sv, .int (nI old), .int (nI sz)])), (sv, .inl (G.2.2, 6, .inr (.inr (.inr (.inr (fun j => some (ad j)))))))]
/-- a saved state's place in the ring -/
def rgS {α : Type} (F : Nat → α) (i : Nat) (x : α) : Nat → α := fun k => if k = i then x else F k
def hOld (old sz : Nat) : Nat := if sz = 6 then (old + 1) % 6 else old
def hAt (old sz : Nat) : Nat := (hOld old sz + svN sz) % 6
theorem hOld_6 {old sz : Nat} (h : sz = 6) : hOld old sz = (old + 1) % 6 := if_pos h
theorem hOld_n {old sz : Nat} (h : ¬ sz = 6) : hOld old sz = old := if_neg h
theorem hOld_lt {old sz : Nat} (h : old < 6) : hOld old sz < 6 := by unfold hOld; split <;> omega
theorem six {i : Nat} (h : i < 6) : i = 0 ∨ i = 1 ∨ i = 2 ∨ i = 3 ∨ i = 4 ∨ i = 5 := by omega
