/-! All contracts stand on one list of words, G: a method's words are its own code, and G. -/
theorem g_goodIn {y : MethodName} {bytes : ByteArray} {maxL : Nat} {ret : Option FieldType} (h5 : Cond.code y bytes maxL ret ∈ G) : GoodIn G (Cond.code y bytes maxL ret :: G) := by
  intro w hw
  rcases List.mem_cons.mp hw with rfl | h
  · exact ⟨h5, good_of_word (G_good _ h5)⟩
  · exact ⟨h, good_of_word (G_good _ h)⟩
theorem g_goodInW {y : MethodName} {bytes : ByteArray} {maxL : Nat} {ret : Option FieldType} {hh : List (Nat × Nat × Nat × Nat)} (h5 : Cond.codeWith y bytes maxL ret hh ∈ G) : GoodIn G (Cond.codeWith y bytes maxL ret hh :: G) := by
  intro w hw
  rcases List.mem_cons.mp hw with rfl | h
  · exact ⟨h5, good_of_word (G_good _ h5)⟩
  · exact ⟨h, good_of_word (G_good _ h)⟩
theorem gV {own : String} {idx : Nat} {C : String} {y : MethodName} {bytes : ByteArray} {maxL : Nat} {ret : Option FieldType} (h1 : Cond.methodLink own idx y ∈ G) (h2 : Cond.instanceMethod y ∈ G) (h3 : Cond.selects C y y ∈ G) (h4 : Cond.initialized C ∈ G) (h5 : Cond.code y bytes maxL ret ∈ G) : GoodIn G (wsV own idx C y (Cond.code y bytes maxL ret :: G)) := by
  intro w hw
  unfold wsV at hw
  rcases List.mem_append.mp hw with h | h
  · have hG : w ∈ G := by
      rcases List.mem_cons.mp h with rfl | h
      · exact h1
      rcases List.mem_cons.mp h with rfl | h
      · exact h2
      rcases List.mem_cons.mp h with rfl | h
      · exact h3
      rcases List.mem_cons.mp h with rfl | h
      · exact h4
      exact absurd h List.not_mem_nil
    exact ⟨hG, good_of_word (G_good _ hG)⟩
  · exact g_goodIn h5 w h
theorem gS {own : String} {idx : Nat} {y : MethodName} {bytes : ByteArray} {maxL : Nat} {ret : Option FieldType} (h1 : Cond.methodLink own idx y ∈ G) (h2 : Cond.static y ∈ G) (h4 : Cond.initialized y.cls ∈ G) (h5 : Cond.code y bytes maxL ret ∈ G) : GoodIn G (va_wsS own idx y (Cond.code y bytes maxL ret :: G)) := by
  intro w hw
  unfold va_wsS at hw
  rcases List.mem_append.mp hw with h | h
  · have hG : w ∈ G := by
      rcases List.mem_cons.mp h with rfl | h
      · exact h1
      rcases List.mem_cons.mp h with rfl | h
      · exact h2
      rcases List.mem_cons.mp h with rfl | h
      · exact h4
      exact absurd h List.not_mem_nil
    exact ⟨hG, good_of_word (G_good _ hG)⟩
  · exact g_goodIn h5 w h
theorem gSW {own : String} {idx : Nat} {y : MethodName} {bytes : ByteArray} {maxL : Nat} {ret : Option FieldType} {hh : List (Nat × Nat × Nat × Nat)} (h1 : Cond.methodLink own idx y ∈ G) (h2 : Cond.static y ∈ G) (h4 : Cond.initialized y.cls ∈ G) (h5 : Cond.codeWith y bytes maxL ret hh ∈ G) : GoodIn G (va_wsS own idx y (Cond.codeWith y bytes maxL ret hh :: G)) := by
  intro w hw
  unfold va_wsS at hw
  rcases List.mem_append.mp hw with h | h
  · have hG : w ∈ G := by
      rcases List.mem_cons.mp h with rfl | h
      · exact h1
      rcases List.mem_cons.mp h with rfl | h
      · exact h2
      rcases List.mem_cons.mp h with rfl | h
      · exact h4
      exact absurd h List.not_mem_nil
    exact ⟨hG, good_of_word (G_good _ hG)⟩
  · exact g_goodInW h5 w h
/-- what the contracts take of the tables beside G: links across the nest, declared methods, castable classes -/
def zOk (U : State) : Prop := ∀ w ∈ Zw, va_Nw w U
theorem Zw_kind : ∀ w ∈ Zw, (∃ a i b n d h, w = .fieldLinkNest a i b n d h) ∨ (∃ x, w = .declares x) ∨ (∃ a b, w = .castable a b) := by
  intro w hw
  simp only [Zw, List.mem_cons, List.not_mem_nil, or_false] at hw
  rcases hw with rfl | rfl | rfl | rfl | rfl | rfl | rfl | rfl | rfl | rfl | rfl | rfl | rfl | rfl | rfl <;> first | exact Or.inl ⟨_, _, _, _, _, _, rfl⟩ | exact Or.inr (Or.inl ⟨_, rfl⟩) | exact Or.inr (Or.inr ⟨_, _, rfl⟩)
theorem zOk.warm {s U : State} (h : zOk s) (hW : s.WarmedH U.vm) : zOk U := by
  intro w hw
  rcases Zw_kind w hw with ⟨a, i, b, n, d, q, rfl⟩ | ⟨x, rfl⟩ | ⟨a, b, rfl⟩
  · exact va_Nw.warmF hW (h _ hw)
  · exact va_Nw.warmD hW (h _ hw)
  · exact va_Nw.warmC hW (h _ hw)
theorem zOk.same {u U : State} (h : zOk u) (e : u.vm = U.vm) : zOk U := by
  intro w hw
  rcases Zw_kind w hw with ⟨a, i, b, n, d, q, rfl⟩ | ⟨x, rfl⟩ | ⟨a, b, rfl⟩ <;> exact va_Nw.same rfl e (h _ hw)
theorem zOk.use {s : State} (h : zOk s) {args : Array Value} {w : Cond} (hw : w ∈ Zw) (ht : w.onTables = true) : w.before args s = true := va_Nw.use ht (h w hw)
/-- an index that was looked at -/
theorem vin2 {i : Int32} {n : Nat} (h0 : ¬ i < 0) (h1 : ¬ nI n ≤ i) (hn : n < 2 ^ 31) : vp_in i n := by
  rw [vp_in_iff]
  have a : ¬ i.toInt < 0 := fun q => h0 (Int32.lt_iff_toInt_lt.mpr q)
  have b : ¬ ((n : Int) ≤ i.toInt) := fun q => h1 (Int32.le_iff_toInt_le.mpr (by rw [nI_toInt hn]; exact q))
  omega
/-- a loop's measure -/
def fuel (n : Nat) (i b : Int32) : Prop := 0 < n ∧ b.toInt - i.toInt < n
theorem i1 {i b : Int32} (h : i < b) : (i + 1).toInt = i.toInt + 1 := by
  have h1 : i.toInt < b.toInt := Int32.lt_iff_toInt_lt.mp h
  have h2 : b.toInt < 2 ^ 31 := Int32.toInt_lt b
  have h3 := Int32.le_toInt i
  rw [Int32.toInt_add, Int.bmod_eq_of_le] <;> simp <;> omega
theorem fuel_step {n : Nat} {i b : Int32} (h : fuel (n + 1) i b) (hi : i < b) : fuel n (i + 1) b := by
  have h1 : i.toInt < b.toInt := Int32.lt_iff_toInt_lt.mp hi
  refine ⟨?_, ?_⟩
  · have := h.2; omega
  · rw [i1 hi]; have := h.2; push_cast at this; omega
theorem nle_lt {i b : Int32} (h : ¬ b ≤ i) : i < b := by
  rw [Int32.lt_iff_toInt_lt]; rw [Int32.le_iff_toInt_le] at h; omega
theorem fuel_of {n : Nat} {i b : Int32} (h0 : 0 < n) (h : b.toInt - i.toInt < n) : fuel n i b := ⟨h0, h⟩
theorem inGX0 : ∀ w ∈ u_ws RX0 TX0 3, w ∈ G := by decide +kernel
theorem inGX1 : ∀ w ∈ u_ws RX1 TX1 7, w ∈ G := by decide +kernel
theorem inGX2 : ∀ w ∈ u_ws RX2 TX2 8, w ∈ G := by decide +kernel
theorem inGX3 : ∀ w ∈ u_ws RX3 TX3 19, w ∈ G := by decide +kernel
/-- the starts of contracts: what a caller gives -/
theorem fb_ro {av : List Value} {D : va_G} {cl : List vw_C} {ws : va_W} {tys : List (ClassId × FieldType)} : FrameBlind (va_Pc av (fun U => va_P D cl ws U.heap ∧ va_K D cl tys U ∧ zOk U)) := fun a U g mk q => by
  obtain ⟨q0, qP, qK, qZ⟩ := q
  exact ⟨q0, qP, va_K.moved (u := U) (U := U.calling g mk a) (Vm.Alike.refl U.vm) qK, qZ.same rfl⟩
theorem fb_nw {av : List Value} : FrameBlind (va_Pc av zOk) := fun a U g mk q => ⟨q.1, q.2.same rfl⟩
theorem fb_rw {av : List Value} {sz : Nat} {D : va_G} {cl : List vw_C} {ws : va_W} {tys : List (ClassId × FieldType)} : FrameBlind (va_Pc av (fun U => U.heap.size = sz ∧ va_P D cl ws U.heap ∧ va_K D cl tys U ∧ va_D (fun _ => True) ws ∧ zOk U)) := fun a U g mk q => by
  obtain ⟨q0, q1, qP, qK, qD, qZ⟩ := q
  exact ⟨q0, q1, qP, va_K.moved (u := U) (U := U.calling g mk a) (Vm.Alike.refl U.vm) qK, qD, qZ.same rfl⟩
theorem pre_ro {s : State} {H : Heap} {av : List Value} {D : va_G} {cl : List vw_C} {ws : va_W} {tys : List (ClassId × FieldType)} (hP : va_P D cl ws H) (hK : va_K D cl tys s) (hZ : zOk s) : ∀ U : State, U.heap = H → s.WarmedH U.vm → va_Pc av (fun U => va_P D cl ws U.heap ∧ va_K D cl tys U ∧ zOk U) av.toArray U := fun U hU hW => ⟨rfl, by rw [hU]; exact hP, va_K.moved hW.alike hK, hZ.warm hW⟩
theorem pre_nw {s : State} {H : Heap} {av : List Value} (hZ : zOk s) : ∀ U : State, U.heap = H → s.WarmedH U.vm → va_Pc av zOk av.toArray U := fun U hU hW => ⟨rfl, hZ.warm hW⟩
theorem pre_rw {s : State} {H : Heap} {av : List Value} {A : Nat → Prop} {D : va_G} {cl : List vw_C} {ws : va_W} {tys : List (ClassId × FieldType)} (hP : va_P D cl ws H) (hK : va_K D cl tys s) (hD : va_D A ws) (hZ : zOk s) : ∀ U : State, U.heap = H → s.WarmedH U.vm → va_Pc av (fun U => U.heap.size = H.size ∧ va_P D cl ws U.heap ∧ va_K D cl tys U ∧ va_D (fun _ => True) ws ∧ zOk U) av.toArray U := fun U hU hW => ⟨rfl, by rw [hU], by rw [hU]; exact hP, va_K.moved hW.alike hK, hD.weaken (fun _ _ _ _ => trivial), hZ.warm hW⟩
