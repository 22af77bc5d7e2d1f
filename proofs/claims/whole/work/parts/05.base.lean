/-! All contracts stand on one list of words, G: a method's words are its own code, and G. -/
theorem g_goodIn {y : MethodName} {bytes : ByteArray} {maxL : Nat} {ret : Option FieldType} (h5 : Cond.code y bytes maxL ret ∈ G) : GoodIn G (Cond.code y bytes maxL ret :: G) := by
  intro w hw
  rcases List.mem_cons.mp hw with rfl | h
  · exact ⟨h5, good_of_word (G_good _ h5)⟩
  · exact ⟨h, good_of_word (G_good _ h)⟩
theorem g_goodInW {y : MethodName} {bytes : ByteArray} {maxL : Nat} {ret : Option FieldType} {hh : List (Nat × Nat × Nat × Nat)} (h5 : Cond.codeWith y bytes maxL ret hh ∈ G) : GoodIn G (Cond.codeWith y bytes maxL ret hh :: G) := by
  intro w hw
  rcases List.mem_cons.mp hw with rfl | h
  · exact ⟨h5, good_of_word (G_good _ h5)⟩
  · exact ⟨h, good_of_word (G_good _ h)⟩
theorem gV {own : String} {idx : Nat} {C : String} {y : MethodName} {bytes : ByteArray} {maxL : Nat} {ret : Option FieldType} (h1 : Cond.methodLink own idx y ∈ G) (h2 : Cond.instanceMethod y ∈ G) (h3 : Cond.selects C y y ∈ G) (h4 : Cond.initialized C ∈ G) (h5 : Cond.code y bytes maxL ret ∈ G) : GoodIn G (wsV own idx C y (Cond.code y bytes maxL ret :: G)) := by
  intro w hw
  unfold wsV at hw
  rcases List.mem_append.mp hw with h | h
  · have hG : w ∈ G := by
      rcases List.mem_cons.mp h with rfl | h
      · exact h1
      rcases List.mem_cons.mp h with rfl | h
      · exact h2
      rcases List.mem_cons.mp h with rfl | h
      · exact h3
      rcases List.mem_cons.mp h with rfl | h
      · exact h4
      exact absurd h List.not_mem_nil
    exact ⟨hG, good_of_word (G_good _ hG)⟩
  · exact g_goodIn h5 w h
theorem gS {own : String} {idx : Nat} {y : MethodName} {bytes : ByteArray} {maxL : Nat} {ret : Option FieldType} (h1 : Cond.methodLink own idx y ∈ G) (h2 : Cond.static y ∈ G) (h4 : Cond.initialized y.cls ∈ G) (h5 : Cond.code y bytes maxL ret ∈ G) : GoodIn G (va_wsS own idx y (Cond.code y bytes maxL ret :: G)) := by
  intro w hw
  unfold va_wsS at hw
  rcases List.mem_append.mp hw with h | h
  · have hG : w ∈ G := by
      rcases List.mem_cons.mp h with rfl | h
      · exact h1
      rcases List.mem_cons.mp h with rfl | h
      · exact h2
      rcases List.mem_cons.mp h with rfl | h
      · exact h4
      exact absurd h List.not_mem_nil
    exact ⟨hG, good_of_word (G_good _ hG)⟩
  · exact g_goodIn h5 w h
theorem gSW {own : String} {idx : Nat} {y : MethodName} {bytes : ByteArray} {maxL : Nat} {ret : Option FieldType} {hh : List (Nat × Nat × Nat × Nat)} (h1 : Cond.methodLink own idx y ∈ G) (h2 : Cond.static y ∈ G) (h4 : Cond.initialized y.cls ∈ G) (h5 : Cond.codeWith y bytes maxL ret hh ∈ G) : GoodIn G (va_wsS own idx y (Cond.codeWith y bytes maxL ret hh :: G)) := by
  intro w hw
  unfold va_wsS at hw
  rcases List.mem_append.mp hw with h | h
  · have hG : w ∈ G := by
      rcases List.mem_cons.mp h with rfl | h
      · exact h1
      rcases List.mem_cons.mp h with rfl | h
      · exact h2
      rcases List.mem_cons.mp h with rfl | h
      · exact h4
      exact absurd h List.not_mem_nil
    exact ⟨hG, good_of_word (G_good _ hG)⟩
  · exact g_goodInW h5 w h
def Zs : List (Nat × String) := [(182, "a field has 1 .. 32 bits"), (186, "more bits than there may be"), (81, "marks are only by bytes"), (88, "a code is 128 .. 255"), (97, "a stuffed row is not patched"), (101, "not all of these bits were written"), (115, "no such byte was written"), (120, "a byte is 0 .. 255"), (189, "more bytes than may come"), (125, "no such whole byte was written"), (127, "fewer than no bytes"), (164, "no such byte came"), (166, "a sum has 16 or 32 bits"), (168, "not all of these bytes are there")]
/-- what the contracts take of the tables beside G: links across the nest, declared methods, castable classes; the texts -/
def zOk (U : State) : Prop := (∀ w ∈ Zw, va_Nw w U) ∧ ∀ q ∈ Zs, ∃ a, vk_R RX2 q.1 q.2 a U
theorem Zw_kind : ∀ w ∈ Zw, (∃ a i b n d h, w = .fieldLinkNest a i b n d h) ∨ (∃ x, w = .declares x) ∨ (∃ a b, w = .castable a b) := by
  intro w hw
  simp only [Zw, List.mem_cons, List.not_mem_nil, or_false] at hw
  rcases hw with rfl | rfl | rfl | rfl | rfl | rfl | rfl | rfl | rfl | rfl | rfl | rfl | rfl | rfl | rfl <;> first | exact Or.inl ⟨_, _, _, _, _, _, rfl⟩ | exact Or.inr (Or.inl ⟨_, rfl⟩) | exact Or.inr (Or.inr ⟨_, _, rfl⟩)
theorem zOk.warm {s U : State} (h : zOk s) (hW : s.WarmedH U.vm) : zOk U := by
  refine ⟨fun w hw => ?_, fun q hq => ?_⟩
  · rcases Zw_kind w hw with ⟨a, i, b, n, d, q, rfl⟩ | ⟨x, rfl⟩ | ⟨a, b, rfl⟩
    · exact va_Nw.warmF hW (h.1 _ hw)
    · exact va_Nw.warmD hW (h.1 _ hw)
    · exact va_Nw.warmC hW (h.1 _ hw)
  · obtain ⟨a, ha⟩ := h.2 q hq
    exact ⟨a, ha.warm hW⟩
theorem zOk.same {u U : State} (h : zOk u) (e : u.vm = U.vm) : zOk U := by
  refine ⟨fun w hw => ?_, fun q hq => ?_⟩
  · rcases Zw_kind w hw with ⟨a, i, b, n, d, q, rfl⟩ | ⟨x, rfl⟩ | ⟨a, b, rfl⟩ <;> exact va_Nw.same rfl e (h.1 _ hw)
  · obtain ⟨a, ha⟩ := h.2 q hq
    exact ⟨a, ha.same e.symm⟩
theorem zOk.use {s : State} (h : zOk s) {args : Array Value} {w : Cond} (hw : w ∈ Zw) (ht : w.onTables = true) : w.before args s = true := va_Nw.use ht (h.1 w hw)
/-- the two statics of Throwable that a throw reads -/
def zSt (A : Nat → Prop) (U : State) (H : Heap) : Prop := vx_Zq Bundle.tN "UNASSIGNED_STACK" Bundle.steD A U H ∧ vx_Zq Bundle.tN "SUPPRESSED_SENTINEL" Bundle.listD A U H
/-- a method that throws or not, and what goes on behind it -/
def xbind {α β : Type} (x : String ⊕ α) (f : α → String ⊕ β) : String ⊕ β := match x with
  | .inl e => .inl e
  | .inr a => f a
theorem xb_inr {α β : Type} {x : String ⊕ α} {f : α → String ⊕ β} {a : α} (h : Sum.inr a = x) : xbind x f = f a := by rw [← h]; rfl
theorem xb_inl {α β : Type} {x : String ⊕ α} {f : α → String ⊕ β} {e : String} (h : Sum.inl e = x) : xbind x f = .inl e := by rw [← h]; rfl
theorem x_at {A : Nat → Prop} {D : va_G} {cl : List vw_C} {ws : va_W} {s t : State} {H : Heap} {locs : List Loc} (hS : va_S A s.heap H locs) (hP : va_P D cl ws H) (hz : H.size ≤ t.heap.size) (hk : ∀ q : Nat, q < H.size → t.heap[q]? = H[q]?) : va_P D cl ws t.heap ∧ va_F A s t :=
  ⟨hP.kept (fun k q h => hk q.1 ((hP k q h).lt)), Nat.le_trans hS.1 hz, fun q h1 h2 => (hk q (Nat.lt_of_lt_of_le h1 hS.1)).trans (hS.2.1 q h1 h2)⟩
theorem fb_x {av : List Value} {sz : Nat} {A : Nat → Prop} {D : va_G} {cl : List vw_C} {ws : va_W} {tys : List (ClassId × FieldType)} : FrameBlind (va_Pc av (fun U => U.heap.size = sz ∧ va_P D cl ws U.heap ∧ va_K D cl tys U ∧ va_D (fun _ => True) ws ∧ zOk U ∧ zSt A U U.heap)) := fun a U g mk q => by
  obtain ⟨q0, q1, qP, qK, qD, qZ, qQ⟩ := q
  exact ⟨q0, q1, qP, va_K.moved (u := U) (U := U.calling g mk a) (Vm.Alike.refl U.vm) qK, qD, qZ.same rfl, vx_Zq.moved (u := U) (U := U.calling g mk a) (Vm.Alike.refl U.vm) qQ.1, vx_Zq.moved (u := U) (U := U.calling g mk a) (Vm.Alike.refl U.vm) qQ.2⟩
theorem pre_x {s : State} {H : Heap} {av : List Value} {A A0 : Nat → Prop} {D : va_G} {cl : List vw_C} {ws : va_W} {tys : List (ClassId × FieldType)} {locs : List Loc} (hP : va_P D cl ws H) (hK : va_K D cl tys s) (hD : va_D A0 ws) (hZ : zOk s) (hQ : zSt A s s.heap) (hS : va_S A s.heap H locs) (hF : ∀ q, va_A ws H.size q → A q) : ∀ U : State, U.heap = H → s.WarmedH U.vm → va_Pc av (fun U => U.heap.size = H.size ∧ va_P D cl ws U.heap ∧ va_K D cl tys U ∧ va_D (fun _ => True) ws ∧ zOk U ∧ zSt (va_A ws H.size) U U.heap) av.toArray U := fun U hU hW =>
  ⟨rfl, by rw [hU], by rw [hU]; exact hP, va_K.moved hW.alike hK, hD.weaken (fun _ _ _ _ => trivial), hZ.warm hW, by rw [hU]; exact ((hQ.1.kept hS.2.1).narrow hF).moved hW.alike, by rw [hU]; exact ((hQ.2.kept hS.2.1).narrow hF).moved hW.alike⟩
/-- an index that was looked at -/
theorem vin2 {i : Int32} {n : Nat} (h0 : ¬ i < 0) (h1 : ¬ nI n ≤ i) (hn : n < 2 ^ 31) : vp_in i n := by
  rw [vp_in_iff]
  have a : ¬ i.toInt < 0 := fun q => h0 (Int32.lt_iff_toInt_lt.mpr q)
  have b : ¬ ((n : Int) ≤ i.toInt) := fun q => h1 (Int32.le_iff_toInt_le.mpr (by rw [nI_toInt hn]; exact q))
  omega
/-- a loop's measure -/
def fuel (n : Nat) (i b : Int32) : Prop := 0 < n ∧ b.toInt - i.toInt < n
theorem i1 {i b : Int32} (h : i < b) : (i + 1).toInt = i.toInt + 1 := by
  have h1 : i.toInt < b.toInt := Int32.lt_iff_toInt_lt.mp h
  have h2 : b.toInt < 2 ^ 31 := Int32.toInt_lt b
  have h3 := Int32.le_toInt i
  rw [Int32.toInt_add, Int.bmod_eq_of_le] <;> simp <;> omega
theorem fuel_step {n : Nat} {i b : Int32} (h : fuel (n + 1) i b) (hi : i < b) : fuel n (i + 1) b := by
  have h1 : i.toInt < b.toInt := Int32.lt_iff_toInt_lt.mp hi
  refine ⟨?_, ?_⟩
  · have := h.2; omega
  · rw [i1 hi]; have := h.2; push_cast at this; omega
theorem nle_lt {i b : Int32} (h : ¬ b ≤ i) : i < b := by
  rw [Int32.lt_iff_toInt_lt]; rw [Int32.le_iff_toInt_le] at h; omega
theorem fuel_of {n : Nat} {i b : Int32} (h0 : 0 < n) (h : b.toInt - i.toInt < n) : fuel n i b := ⟨h0, h⟩
theorem inGX0 : ∀ w ∈ u_ws RX0 TX0 3, w ∈ G := by decide +kernel
theorem inGX1 : ∀ w ∈ u_ws RX1 TX1 7, w ∈ G := by decide +kernel
theorem inGX2 : ∀ w ∈ u_ws RX2 TX2 8, w ∈ G := by decide +kernel
theorem inGX3 : ∀ w ∈ u_ws RX3 TX3 19, w ∈ G := by decide +kernel
/-- the starts of contracts: what a caller gives -/
theorem fb_ro {av : List Value} {D : va_G} {cl : List vw_C} {ws : va_W} {tys : List (ClassId × FieldType)} : FrameBlind (va_Pc av (fun U => va_P D cl ws U.heap ∧ va_K D cl tys U ∧ zOk U)) := fun a U g mk q => by
  obtain ⟨q0, qP, qK, qZ⟩ := q
  exact ⟨q0, qP, va_K.moved (u := U) (U := U.calling g mk a) (Vm.Alike.refl U.vm) qK, qZ.same rfl⟩
theorem fb_nw {av : List Value} : FrameBlind (va_Pc av zOk) := fun a U g mk q => ⟨q.1, q.2.same rfl⟩
theorem fb_rw {av : List Value} {sz : Nat} {D : va_G} {cl : List vw_C} {ws : va_W} {tys : List (ClassId × FieldType)} : FrameBlind (va_Pc av (fun U => U.heap.size = sz ∧ va_P D cl ws U.heap ∧ va_K D cl tys U ∧ va_D (fun _ => True) ws ∧ zOk U)) := fun a U g mk q => by
  obtain ⟨q0, q1, qP, qK, qD, qZ⟩ := q
  exact ⟨q0, q1, qP, va_K.moved (u := U) (U := U.calling g mk a) (Vm.Alike.refl U.vm) qK, qD, qZ.same rfl⟩
theorem pre_ro {s : State} {H : Heap} {av : List Value} {D : va_G} {cl : List vw_C} {ws : va_W} {tys : List (ClassId × FieldType)} (hP : va_P D cl ws H) (hK : va_K D cl tys s) (hZ : zOk s) : ∀ U : State, U.heap = H → s.WarmedH U.vm → va_Pc av (fun U => va_P D cl ws U.heap ∧ va_K D cl tys U ∧ zOk U) av.toArray U := fun U hU hW => ⟨rfl, by rw [hU]; exact hP, va_K.moved hW.alike hK, hZ.warm hW⟩
theorem pre_nw {s : State} {H : Heap} {av : List Value} (hZ : zOk s) : ∀ U : State, U.heap = H → s.WarmedH U.vm → va_Pc av zOk av.toArray U := fun U hU hW => ⟨rfl, hZ.warm hW⟩
theorem pre_rw {s : State} {H : Heap} {av : List Value} {A : Nat → Prop} {D : va_G} {cl : List vw_C} {ws : va_W} {tys : List (ClassId × FieldType)} (hP : va_P D cl ws H) (hK : va_K D cl tys s) (hD : va_D A ws) (hZ : zOk s) : ∀ U : State, U.heap = H → s.WarmedH U.vm → va_Pc av (fun U => U.heap.size = H.size ∧ va_P D cl ws U.heap ∧ va_K D cl tys U ∧ va_D (fun _ => True) ws ∧ zOk U) av.toArray U := fun U hU hW => ⟨rfl, by rw [hU], by rw [hU]; exact hP, va_K.moved hW.alike hK, hD.weaken (fun _ _ _ _ => trivial), hZ.warm hW⟩
