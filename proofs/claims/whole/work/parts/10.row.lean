abbrev Rw : Type := (Nat → Int32) × Int32
abbrev Tk : Type := Int32 × Int32 × Int32 × Int32
abbrev Bm : Type := (Nat → Int32) × Int32 × Int32 × Int32 × Int32
theorem nlt2 {i b : Int32} (h : i < b) : ¬ b ≤ i := by
  rw [Int32.lt_iff_toInt_lt] at h; rw [Int32.le_iff_toInt_le]; omega
def FX0_shiftInByte (lf : Int32) (rs : Rw) (p0 : Int32) : Int32 :=
  if lf = 0 then
    7 - (p0 &&& 7)
  else
    p0 &&& 7
set_option maxRecDepth 100000 in
theorem plX0_shiftInByte_0 (lf : Int32) (rs : Rw) (p0 : Int32) (c_4 : lf = 0) : 7 - (p0 &&& 7) = FX0_shiftInByte lf rs p0 := by
  exact (if_pos c_4).symm
set_option maxRecDepth 100000 in
theorem plX0_shiftInByte_1 (lf : Int32) (rs : Rw) (p0 : Int32) (c_4 : ¬ (lf = 0)) : p0 &&& 7 = FX0_shiftInByte lf rs p0 := by
  exact (if_neg c_4).symm
set_option maxHeartbeats 4000000 in
set_option maxRecDepth 100000 in
theorem mX0_shiftInByte (l : Launch) (dC : Nat → ClassId) (dI : Nat → Nat → Nat) (cI : ClassId) (o oa : Nat) (lf : Int32) (rs : Rw) (p0 : Int32) : Met l yX0_shiftInByte (Cond.code yX0_shiftInByte cX0_shiftInByte 2 (some .int) :: G) ({ frames := 0, cells := 0, slots := 0, locals := 0 } : Room) (va_Pc [.ref o, .int p0] (fun U => va_P (dC, dI) vwCl [(o, .inr (0, [.int lf, .ref oa, .int rs.2])), (oa, .inl (cI, 600, .inl rs.1))] U.heap ∧ va_K (dC, dI) vwCl [(cI, .int)] U ∧ zOk U)) (vp_Si (fun r => r = (FX0_shiftInByte lf rs p0))) 0 0 (fun _ => False) := by
  refine Met.ofW (cc := cX0_shiftInByte) (maxL := 2) (ret := (some .int)) (by decide) rfl ?_
  intro p e s m args below meth c s₁ B hml hv
  obtain ⟨rfl, hP, hK, hZ⟩ := hv
  have hx := B.exec
  have hb := B.bytes
  have hr := B.returns
  have hts : ∀ w ∈ G, w.before [.ref o, .int p0].toArray s = true := fun w h => atoms_spec (ws := (Cond.code yX0_shiftInByte cX0_shiftInByte 2 (some .int) :: G)) B.pre w (List.mem_cons_of_mem _ h)
  have hown : s.vm.findClass RX0 = some m.cls := findClass_of_methodNamed B.named
  have hlocks := B.notSynchronized
  have hl := lv_entry ([.ref o, .int p0]) (n := 2) (Nat.le_of_ble_eq_true rfl)
  rw [lg_entry_eq]
  generalize (lg_sl ([.ref o, .int p0]) ++ List.replicate (2 - (lg_sl ([.ref o, .int p0])).length) Slot.unset).toArray = ls at hl ⊢
  have hl : lv_has ls 2 [(0, .ref o), (1, .int p0)] := hl
  refine lv_aload_n hx hb dX0_shiftInByte_0 rfl (lv_at hl 0 rfl) ?_
  refine va_get (D := (dC, dI)) (ci := 0) (v := .int lf) (C := RX0) (T := TX0) (N := 3) hx hb hts inGX0 hown hK hP 0 rfl rfl 0 (by decide) (hts _ wd59) (fun _ h9 => h9) rfl dX0_shiftInByte_1 ?_
  refine lv_if_eq (tgt := 14) hx hb dX0_shiftInByte_4 (by decide) (fun c_4 => ?_) (fun c_4 => ?_)
  · refine lv_bipush (v := 7) hx hb dX0_shiftInByte_14 (by decide) ?_
    refine lv_iload_n hx hb dX0_shiftInByte_16 rfl (lv_at hl 1 rfl) ?_
    refine lv_bipush (v := 7) hx hb dX0_shiftInByte_17 (by decide) ?_
    refine lv_iand hx hb dX0_shiftInByte_19 ?_
    refine lv_isub hx hb dX0_shiftInByte_20 ?_
    exact W.iret (v := 7 - (p0 &&& 7)) hx hb hr (fun t ht hW => ⟨7 - (p0 &&& 7), rfl, (plX0_shiftInByte_0 lf rs p0 c_4), ht⟩) (fun q h => nomatch h) dX0_shiftInByte_21
  · refine lv_iload_n hx hb dX0_shiftInByte_7 rfl (lv_at hl 1 rfl) ?_
    refine lv_bipush (v := 7) hx hb dX0_shiftInByte_8 (by decide) ?_
    refine lv_iand hx hb dX0_shiftInByte_10 ?_
    refine lv_goto (tgt := 21) hx hb dX0_shiftInByte_11 (by decide) ?_
    exact W.iret (v := p0 &&& 7) hx hb hr (fun t ht hW => ⟨p0 &&& 7, rfl, (plX0_shiftInByte_1 lf rs p0 c_4), ht⟩) (fun q h => nomatch h) dX0_shiftInByte_21
def FX0_byteOf (lf : Int32) (rs : Rw) (p0 : Int32) : Int32 :=
  if p0 < 0 then
    0
  else
    if 600 ≤ p0 then
      0
    else
      rs.1 p0.toNatClampNeg
set_option maxRecDepth 100000 in
theorem plX0_byteOf_0 (lf : Int32) (rs : Rw) (p0 : Int32) (c_1 : p0 < 0) : 0 = FX0_byteOf lf rs p0 := by
  exact (if_pos c_1).symm
set_option maxRecDepth 100000 in
theorem plX0_byteOf_1 (lf : Int32) (rs : Rw) (p0 : Int32) (c_1 : ¬ (p0 < 0)) (c_10 : 600 ≤ p0) : 0 = FX0_byteOf lf rs p0 := by
  exact ((if_neg c_1).trans (if_pos c_10)).symm
set_option maxRecDepth 100000 in
theorem plX0_byteOf_2 (lf : Int32) (rs : Rw) (p0 : Int32) (c_1 : ¬ (p0 < 0)) (c_10 : ¬ (600 ≤ p0)) : rs.1 p0.toNatClampNeg = FX0_byteOf lf rs p0 := by
  exact ((if_neg c_1).trans (if_neg c_10)).symm
set_option maxHeartbeats 4000000 in
set_option maxRecDepth 100000 in
theorem mX0_byteOf (l : Launch) (dC : Nat → ClassId) (dI : Nat → Nat → Nat) (cI : ClassId) (o oa : Nat) (lf : Int32) (rs : Rw) (p0 : Int32) : Met l yX0_byteOf (Cond.code yX0_byteOf cX0_byteOf 2 (some .int) :: G) ({ frames := 0, cells := 0, slots := 0, locals := 0 } : Room) (va_Pc [.ref o, .int p0] (fun U => va_P (dC, dI) vwCl [(o, .inr (0, [.int lf, .ref oa, .int rs.2])), (oa, .inl (cI, 600, .inl rs.1))] U.heap ∧ va_K (dC, dI) vwCl [(cI, .int)] U ∧ zOk U)) (vp_Si (fun r => r = (FX0_byteOf lf rs p0))) 0 0 (fun _ => False) := by
  refine Met.ofW (cc := cX0_byteOf) (maxL := 2) (ret := (some .int)) (by decide) rfl ?_
  intro p e s m args below meth c s₁ B hml hv
  obtain ⟨rfl, hP, hK, hZ⟩ := hv
  have hx := B.exec
  have hb := B.bytes
  have hr := B.returns
  have hts : ∀ w ∈ G, w.before [.ref o, .int p0].toArray s = true := fun w h => atoms_spec (ws := (Cond.code yX0_byteOf cX0_byteOf 2 (some .int) :: G)) B.pre w (List.mem_cons_of_mem _ h)
  have hown : s.vm.findClass RX0 = some m.cls := findClass_of_methodNamed B.named
  have hlocks := B.notSynchronized
  have hl := lv_entry ([.ref o, .int p0]) (n := 2) (Nat.le_of_ble_eq_true rfl)
  rw [lg_entry_eq]
  generalize (lg_sl ([.ref o, .int p0]) ++ List.replicate (2 - (lg_sl ([.ref o, .int p0])).length) Slot.unset).toArray = ls at hl ⊢
  have hl : lv_has ls 2 [(0, .ref o), (1, .int p0)] := hl
  refine lv_iload_n hx hb dX0_byteOf_0 rfl (lv_at hl 1 rfl) ?_
  refine lv_if_lt (tgt := 22) hx hb dX0_byteOf_1 (by decide) (fun c_1 => ?_) (fun c_1 => ?_)
  · refine lv_iconst (v := 0) hx hb dX0_byteOf_22 (by decide) ?_
    exact W.iret (v := 0) hx hb hr (fun t ht hW => ⟨0, rfl, (plX0_byteOf_0 lf rs p0 c_1), ht⟩) (fun q h => nomatch h) dX0_byteOf_23
  · refine lv_iload_n hx hb dX0_byteOf_4 rfl (lv_at hl 1 rfl) ?_
    refine lv_aload_n hx hb dX0_byteOf_5 rfl (lv_at hl 0 rfl) ?_
    refine va_get (D := (dC, dI)) (ci := 0) (v := .ref oa) (C := RX0) (T := TX0) (N := 3) hx hb hts inGX0 hown hK hP 0 rfl rfl 1 (by decide) (hts _ wd60) (fun _ h9 => h9) rfl dX0_byteOf_6 ?_
    refine va_alen (v := 600) hx hb hK hP 1 0 rfl rfl rfl dX0_byteOf_9 ?_
    refine lv_icmp_ge (tgt := 22) hx hb dX0_byteOf_10 (by decide) (fun c_10 => ?_) (fun c_10 => ?_)
    · refine lv_iconst (v := 0) hx hb dX0_byteOf_22 (by decide) ?_
      exact W.iret (v := 0) hx hb hr (fun t ht hW => ⟨0, rfl, (plX0_byteOf_1 lf rs p0 c_1 c_10), ht⟩) (fun q h => nomatch h) dX0_byteOf_23
    · refine lv_aload_n hx hb dX0_byteOf_13 rfl (lv_at hl 0 rfl) ?_
      refine va_get (D := (dC, dI)) (ci := 0) (v := .ref oa) (C := RX0) (T := TX0) (N := 3) hx hb hts inGX0 hown hK hP 0 rfl rfl 1 (by decide) (hts _ wd60) (fun _ h9 => h9) rfl dX0_byteOf_14 ?_
      refine lv_iload_n hx hb dX0_byteOf_17 rfl (lv_at hl 1 rfl) ?_
      refine va_iald hx hb hK hP 1 0 rfl rfl (vin2 c_1 c_10 (by decide)) dX0_byteOf_18 ?_
      refine lv_goto (tgt := 23) hx hb dX0_byteOf_19 (by decide) ?_
      exact W.iret (v := rs.1 p0.toNatClampNeg) hx hb hr (fun t ht hW => ⟨rs.1 p0.toNatClampNeg, rfl, (plX0_byteOf_2 lf rs p0 c_1 c_10), ht⟩) (fun q h => nomatch h) dX0_byteOf_23
def FX0_bitOf (lf : Int32) (rs : Rw) (p0 : Int32) : Int32 :=
  let r_1 := FX0_byteOf lf rs (p0 >>> (3 &&& 31))
  let r_3 := FX0_shiftInByte lf rs p0
  (r_1 >>> (r_3 &&& 31)) &&& 1
set_option maxRecDepth 100000 in
theorem plX0_bitOf_0 (lf : Int32) (rs : Rw) (p0 : Int32) (r_1 : Int32) (hw_2 : r_1 = FX0_byteOf lf rs (p0 >>> (3 &&& 31))) (r_3 : Int32) (hw_4 : r_3 = FX0_shiftInByte lf rs p0) : (r_1 >>> (r_3 &&& 31)) &&& 1 = FX0_bitOf lf rs p0 := by
  subst hw_2
  subst hw_4
  exact rfl
set_option maxHeartbeats 4000000 in
set_option maxRecDepth 100000 in
theorem mX0_bitOf (l : Launch) (dC : Nat → ClassId) (dI : Nat → Nat → Nat) (cI : ClassId) (o oa : Nat) (lf : Int32) (rs : Rw) (p0 : Int32) : Met l yX0_bitOf (Cond.code yX0_bitOf cX0_bitOf 2 (some .int) :: G) ({ frames := 1, cells := 0, slots := 0, locals := 21 } : Room) (va_Pc [.ref o, .int p0] (fun U => va_P (dC, dI) vwCl [(o, .inr (0, [.int lf, .ref oa, .int rs.2])), (oa, .inl (cI, 600, .inl rs.1))] U.heap ∧ va_K (dC, dI) vwCl [(cI, .int)] U ∧ zOk U)) (vp_Si (fun r => r = (FX0_bitOf lf rs p0))) 0 0 (fun _ => False) := by
  refine Met.ofW (cc := cX0_bitOf) (maxL := 2) (ret := (some .int)) (by decide) rfl ?_
  intro p e s m args below meth c s₁ B hml hv
  obtain ⟨rfl, hP, hK, hZ⟩ := hv
  have hx := B.exec
  have hb := B.bytes
  have hr := B.returns
  have hts : ∀ w ∈ G, w.before [.ref o, .int p0].toArray s = true := fun w h => atoms_spec (ws := (Cond.code yX0_bitOf cX0_bitOf 2 (some .int) :: G)) B.pre w (List.mem_cons_of_mem _ h)
  have hown : s.vm.findClass RX0 = some m.cls := findClass_of_methodNamed B.named
  have hlocks := B.notSynchronized
  have hl := lv_entry ([.ref o, .int p0]) (n := 2) (Nat.le_of_ble_eq_true rfl)
  rw [lg_entry_eq]
  generalize (lg_sl ([.ref o, .int p0]) ++ List.replicate (2 - (lg_sl ([.ref o, .int p0])).length) Slot.unset).toArray = ls at hl ⊢
  have hl : lv_has ls 2 [(0, .ref o), (1, .int p0)] := hl
  refine lv_aload_n hx hb dX0_bitOf_0 rfl (lv_at hl 0 rfl) ?_
  refine lv_iload_n hx hb dX0_bitOf_1 rfl (lv_at hl 1 rfl) ?_
  refine lv_iconst (v := 3) hx hb dX0_bitOf_2 (by decide) ?_
  refine lv_ishr hx hb dX0_bitOf_3 ?_
  have hPc := hP.sub (ws' := [(o, .inr (0, [.int lf, .ref oa, .int rs.2])), (oa, .inl (cI, 600, .inl rs.1))]) [0, 1] rfl
  have hKc := hK.sub (tys' := [(cI, .int)]) [0] rfl
  refine vp_callSi (va_Run.run (va_runV (As := [.int (p0 >>> (3 &&& 31))]) (rest := []) ⟨hx, hb, hml, hown, hts⟩ (mX0_byteOf l dC dI cI o oa lf rs (p0 >>> (3 &&& 31))) (cwV 1 hts (gV wd154 wd139 wd140 wd28 wd141) rfl rfl rfl (by decide +kernel) ⟨Nat.le_of_ble_eq_true rfl, Nat.le_of_ble_eq_true rfl⟩) ⟨fb_ro, va_recv hKc hPc (ci := 0) (q0 := 0) rfl rfl, pre_ro hPc hKc hZ⟩ rfl rfl hl.1 rfl (lv_room (Nat.le_of_ble_eq_true rfl)) dX0_bitOf_4 ⟨Nat.le_of_ble_eq_true rfl, Nat.le_of_ble_eq_true rfl⟩)) (fun r_1 hw_2 => ?_)
  refine lv_aload_n hx hb dX0_bitOf_7 rfl (lv_at hl 0 rfl) ?_
  refine lv_iload_n hx hb dX0_bitOf_8 rfl (lv_at hl 1 rfl) ?_
  have hPc := hP.sub (ws' := [(o, .inr (0, [.int lf, .ref oa, .int rs.2])), (oa, .inl (cI, 600, .inl rs.1))]) [0, 1] rfl
  have hKc := hK.sub (tys' := [(cI, .int)]) [0] rfl
  refine vp_callSi (va_Run.run (va_runV (As := [.int p0]) (rest := [.int r_1]) ⟨hx, hb, hml, hown, hts⟩ (mX0_shiftInByte l dC dI cI o oa lf rs p0) (cwV 1 hts (gV wd155 wd156 wd1 wd28 wd157) rfl rfl rfl (by decide +kernel) ⟨Nat.le_of_ble_eq_true rfl, Nat.le_of_ble_eq_true rfl⟩) ⟨fb_ro, va_recv hKc hPc (ci := 0) (q0 := 0) rfl rfl, pre_ro hPc hKc hZ⟩ rfl rfl hl.1 rfl (lv_room (Nat.le_of_ble_eq_true rfl)) dX0_bitOf_9 ⟨Nat.le_of_ble_eq_true rfl, Nat.le_of_ble_eq_true rfl⟩)) (fun r_3 hw_4 => ?_)
  refine lv_ishr hx hb dX0_bitOf_12 ?_
  refine lv_iconst (v := 1) hx hb dX0_bitOf_13 (by decide) ?_
  refine lv_iand hx hb dX0_bitOf_14 ?_
  exact W.iret (v := (r_1 >>> (r_3 &&& 31)) &&& 1) hx hb hr (fun t ht hW => ⟨(r_1 >>> (r_3 &&& 31)) &&& 1, rfl, (plX0_bitOf_0 lf rs p0 _ hw_2 _ hw_4), ht⟩) (fun q h => nomatch h) dX0_bitOf_15
def FX0_isMarkAt (lf : Int32) (rs : Rw) (p0 : Int32) : Int32 :=
  if rs.2 ≤ (p0 + 1) then
    0
  else
    let r_1 := FX0_byteOf lf rs p0
    if r_1 = 255 then
      let r_3 := FX0_byteOf lf rs (p0 + 1)
      if r_3 < 128 then
        0
      else
        1
    else
      0
set_option maxRecDepth 100000 in
theorem plX0_isMarkAt_0 (lf : Int32) (rs : Rw) (p0 : Int32) (c_7 : rs.2 ≤ (p0 + 1)) : 0 = FX0_isMarkAt lf rs p0 := by
  exact (if_pos c_7).symm
set_option maxRecDepth 100000 in
theorem plX0_isMarkAt_1 (lf : Int32) (rs : Rw) (p0 : Int32) (c_7 : ¬ (rs.2 ≤ (p0 + 1))) (r_1 : Int32) (hw_2 : r_1 = FX0_byteOf lf rs p0) (c_18 : ¬ (r_1 = 255)) : 0 = FX0_isMarkAt lf rs p0 := by
  subst hw_2
  exact ((if_neg c_7).trans (if_neg c_18)).symm
set_option maxRecDepth 100000 in
theorem plX0_isMarkAt_2 (lf : Int32) (rs : Rw) (p0 : Int32) (c_7 : ¬ (rs.2 ≤ (p0 + 1))) (r_1 : Int32) (hw_2 : r_1 = FX0_byteOf lf rs p0) (c_18 : r_1 = 255) (r_3 : Int32) (hw_4 : r_3 = FX0_byteOf lf rs (p0 + 1)) (c_31 : r_3 < 128) : 0 = FX0_isMarkAt lf rs p0 := by
  subst hw_2
  subst hw_4
  exact (((if_neg c_7).trans (if_pos c_18)).trans (if_pos c_31)).symm
set_option maxRecDepth 100000 in
theorem plX0_isMarkAt_3 (lf : Int32) (rs : Rw) (p0 : Int32) (c_7 : ¬ (rs.2 ≤ (p0 + 1))) (r_1 : Int32) (hw_2 : r_1 = FX0_byteOf lf rs p0) (c_18 : r_1 = 255) (r_3 : Int32) (hw_4 : r_3 = FX0_byteOf lf rs (p0 + 1)) (c_31 : ¬ (r_3 < 128)) : 1 = FX0_isMarkAt lf rs p0 := by
  subst hw_2
  subst hw_4
  exact (((if_neg c_7).trans (if_pos c_18)).trans (if_neg c_31)).symm
set_option maxHeartbeats 4000000 in
set_option maxRecDepth 100000 in
theorem mX0_isMarkAt (l : Launch) (dC : Nat → ClassId) (dI : Nat → Nat → Nat) (cI : ClassId) (o oa : Nat) (lf : Int32) (rs : Rw) (p0 : Int32) : Met l yX0_isMarkAt (Cond.code yX0_isMarkAt cX0_isMarkAt 2 (some .boolean) :: G) ({ frames := 1, cells := 0, slots := 0, locals := 21 } : Room) (va_Pc [.ref o, .int p0] (fun U => va_P (dC, dI) vwCl [(o, .inr (0, [.int lf, .ref oa, .int rs.2])), (oa, .inl (cI, 600, .inl rs.1))] U.heap ∧ va_K (dC, dI) vwCl [(cI, .int)] U ∧ zOk U)) (vp_Si (fun r => r = (FX0_isMarkAt lf rs p0))) 0 0 (fun _ => False) := by
  refine Met.ofW (cc := cX0_isMarkAt) (maxL := 2) (ret := (some .boolean)) (by decide) rfl ?_
  intro p e s m args below meth c s₁ B hml hv
  obtain ⟨rfl, hP, hK, hZ⟩ := hv
  have hx := B.exec
  have hb := B.bytes
  have hr := B.returns
  have hts : ∀ w ∈ G, w.before [.ref o, .int p0].toArray s = true := fun w h => atoms_spec (ws := (Cond.code yX0_isMarkAt cX0_isMarkAt 2 (some .boolean) :: G)) B.pre w (List.mem_cons_of_mem _ h)
  have hown : s.vm.findClass RX0 = some m.cls := findClass_of_methodNamed B.named
  have hlocks := B.notSynchronized
  have hl := lv_entry ([.ref o, .int p0]) (n := 2) (Nat.le_of_ble_eq_true rfl)
  rw [lg_entry_eq]
  generalize (lg_sl ([.ref o, .int p0]) ++ List.replicate (2 - (lg_sl ([.ref o, .int p0])).length) Slot.unset).toArray = ls at hl ⊢
  have hl : lv_has ls 2 [(0, .ref o), (1, .int p0)] := hl
  refine lv_iload_n hx hb dX0_isMarkAt_0 rfl (lv_at hl 1 rfl) ?_
  refine lv_iconst (v := 1) hx hb dX0_isMarkAt_1 (by decide) ?_
  refine lv_iadd hx hb dX0_isMarkAt_2 ?_
  refine lv_aload_n hx hb dX0_isMarkAt_3 rfl (lv_at hl 0 rfl) ?_
  refine va_get (D := (dC, dI)) (ci := 0) (v := .int rs.2) (C := RX0) (T := TX0) (N := 3) hx hb hts inGX0 hown hK hP 0 rfl rfl 2 (by decide) (hts _ wd61) (fun _ h9 => h9) rfl dX0_isMarkAt_4 ?_
  refine lv_icmp_ge (tgt := 38) hx hb dX0_isMarkAt_7 (by decide) (fun c_7 => ?_) (fun c_7 => ?_)
  · refine lv_iconst (v := 0) hx hb dX0_isMarkAt_38 (by decide) ?_
    exact W.zret (v := 0) (ty := .boolean) hx hb hr rfl (fun t ht hW => ⟨0, rfl, (plX0_isMarkAt_0 lf rs p0 c_7), ht⟩) (fun q h => nomatch h) dX0_isMarkAt_39
  · refine lv_aload_n hx hb dX0_isMarkAt_10 rfl (lv_at hl 0 rfl) ?_
    refine lv_iload_n hx hb dX0_isMarkAt_11 rfl (lv_at hl 1 rfl) ?_
    have hPc := hP.sub (ws' := [(o, .inr (0, [.int lf, .ref oa, .int rs.2])), (oa, .inl (cI, 600, .inl rs.1))]) [0, 1] rfl
    have hKc := hK.sub (tys' := [(cI, .int)]) [0] rfl
    refine vp_callSi (va_Run.run (va_runV (As := [.int p0]) (rest := []) ⟨hx, hb, hml, hown, hts⟩ (mX0_byteOf l dC dI cI o oa lf rs p0) (cwV 1 hts (gV wd154 wd139 wd140 wd28 wd141) rfl rfl rfl (by decide +kernel) ⟨Nat.le_of_ble_eq_true rfl, Nat.le_of_ble_eq_true rfl⟩) ⟨fb_ro, va_recv hKc hPc (ci := 0) (q0 := 0) rfl rfl, pre_ro hPc hKc hZ⟩ rfl rfl hl.1 rfl (lv_room (Nat.le_of_ble_eq_true rfl)) dX0_isMarkAt_12 ⟨Nat.le_of_ble_eq_true rfl, Nat.le_of_ble_eq_true rfl⟩)) (fun r_1 hw_2 => ?_)
    refine lv_sipush (v := 255) hx hb dX0_isMarkAt_15 (by decide) ?_
    refine lv_icmp_ne (tgt := 38) hx hb dX0_isMarkAt_18 (by decide) (fun c_18 => ?_) (fun c_18 => ?_)
    · refine lv_iconst (v := 0) hx hb dX0_isMarkAt_38 (by decide) ?_
      exact W.zret (v := 0) (ty := .boolean) hx hb hr rfl (fun t ht hW => ⟨0, rfl, (plX0_isMarkAt_1 lf rs p0 c_7 _ hw_2 c_18), ht⟩) (fun q h => nomatch h) dX0_isMarkAt_39
    · refine lv_aload_n hx hb dX0_isMarkAt_21 rfl (lv_at hl 0 rfl) ?_
      refine lv_iload_n hx hb dX0_isMarkAt_22 rfl (lv_at hl 1 rfl) ?_
      refine lv_iconst (v := 1) hx hb dX0_isMarkAt_23 (by decide) ?_
      refine lv_iadd hx hb dX0_isMarkAt_24 ?_
      have hPc := hP.sub (ws' := [(o, .inr (0, [.int lf, .ref oa, .int rs.2])), (oa, .inl (cI, 600, .inl rs.1))]) [0, 1] rfl
      have hKc := hK.sub (tys' := [(cI, .int)]) [0] rfl
      refine vp_callSi (va_Run.run (va_runV (As := [.int (p0 + 1)]) (rest := []) ⟨hx, hb, hml, hown, hts⟩ (mX0_byteOf l dC dI cI o oa lf rs (p0 + 1)) (cwV 1 hts (gV wd154 wd139 wd140 wd28 wd141) rfl rfl rfl (by decide +kernel) ⟨Nat.le_of_ble_eq_true rfl, Nat.le_of_ble_eq_true rfl⟩) ⟨fb_ro, va_recv hKc hPc (ci := 0) (q0 := 0) rfl rfl, pre_ro hPc hKc hZ⟩ rfl rfl hl.1 rfl (lv_room (Nat.le_of_ble_eq_true rfl)) dX0_isMarkAt_25 ⟨Nat.le_of_ble_eq_true rfl, Nat.le_of_ble_eq_true rfl⟩)) (fun r_3 hw_4 => ?_)
      refine lv_sipush (v := 128) hx hb dX0_isMarkAt_28 (by decide) ?_
      refine lv_icmp_lt (tgt := 38) hx hb dX0_isMarkAt_31 (by decide) (fun c_31 => ?_) (fun c_31 => ?_)
      · refine lv_iconst (v := 0) hx hb dX0_isMarkAt_38 (by decide) ?_
        exact W.zret (v := 0) (ty := .boolean) hx hb hr rfl (fun t ht hW => ⟨0, rfl, (plX0_isMarkAt_2 lf rs p0 c_7 _ hw_2 c_18 _ hw_4 c_31), ht⟩) (fun q h => nomatch h) dX0_isMarkAt_39
      · refine lv_iconst (v := 1) hx hb dX0_isMarkAt_34 (by decide) ?_
        refine lv_goto (tgt := 39) hx hb dX0_isMarkAt_35 (by decide) ?_
        exact W.zret (v := 1) (ty := .boolean) hx hb hr rfl (fun t ht hW => ⟨1, rfl, (plX0_isMarkAt_3 lf rs p0 c_7 _ hw_2 c_18 _ hw_4 c_31), ht⟩) (fun q h => nomatch h) dX0_isMarkAt_39
def FX0_setBit (lf : Int32) (rs : Rw) (p0 : Int32) (p1 : Int32) : Rw :=
  let x_1 := p0 >>> (3 &&& 31)
  if x_1 < 0 then
    rs
  else
    if x_1 < 600 then
      let r_2 := FX0_shiftInByte lf rs p0
      let f_4 := ((rs.1 x_1.toNatClampNeg) &&& ((1 <<< (r_2 &&& 31)) ^^^ (-1))) ||| (p1 <<< (r_2 &&& 31))
      let x_5 := if rs.2 < x_1 + 1 then x_1 + 1 else rs.2
      (upd rs.1 x_1.toNatClampNeg f_4, x_5)
    else
      rs
set_option maxRecDepth 100000 in
theorem plX0_setBit_0 (lf : Int32) (rs : Rw) (p0 : Int32) (p1 : Int32) (x_1 : Int32) (ex_1 : x_1 = p0 >>> (3 &&& 31)) (c_5 : x_1 < 0) : rs = FX0_setBit lf rs p0 p1 := by
  subst ex_1
  exact (if_pos c_5).symm
set_option maxRecDepth 100000 in
theorem plX0_setBit_1 (lf : Int32) (rs : Rw) (p0 : Int32) (p1 : Int32) (x_1 : Int32) (ex_1 : x_1 = p0 >>> (3 &&& 31)) (c_5 : ¬ (x_1 < 0)) (c_14 : x_1 < 600) (r_2 : Int32) (hw_3 : r_2 = FX0_shiftInByte lf rs p0) (f_4 : Int32) (ef_4 : f_4 = ((rs.1 x_1.toNatClampNeg) &&& ((1 <<< (r_2 &&& 31)) ^^^ (-1))) ||| (p1 <<< (r_2 &&& 31))) (x_5 : Int32) (ex_5 : x_5 = if rs.2 < x_1 + 1 then x_1 + 1 else rs.2) : (upd rs.1 x_1.toNatClampNeg f_4, x_5) = FX0_setBit lf rs p0 p1 := by
  subst ex_1
  subst hw_3
  subst ef_4
  subst ex_5
  exact ((if_neg c_5).trans (if_pos c_14)).symm
set_option maxRecDepth 100000 in
theorem plX0_setBit_2 (lf : Int32) (rs : Rw) (p0 : Int32) (p1 : Int32) (x_1 : Int32) (ex_1 : x_1 = p0 >>> (3 &&& 31)) (c_5 : ¬ (x_1 < 0)) (c_14 : ¬ (x_1 < 600)) : rs = FX0_setBit lf rs p0 p1 := by
  subst ex_1
  exact ((if_neg c_5).trans (if_neg c_14)).symm
set_option maxHeartbeats 4000000 in
set_option maxRecDepth 100000 in
theorem mX0_setBit (l : Launch) (dC : Nat → ClassId) (dI : Nat → Nat → Nat) (cI : ClassId) (o oa : Nat) (sz : Nat) (lf : Int32) (rs : Rw) (p0 : Int32) (p1 : Int32) : Met l yX0_setBit (Cond.code yX0_setBit cX0_setBit 5 none :: G) ({ frames := 1, cells := 0, slots := 0, locals := 21 } : Room) (va_Pc [.ref o, .int p0, .int p1] (fun U => U.heap.size = sz ∧ va_P (dC, dI) vwCl [(o, .inr (0, [.int lf, .ref oa, .int rs.2])), (oa, .inl (cI, 600, .inl rs.1))] U.heap ∧ va_K (dC, dI) vwCl [(cI, .int)] U ∧ va_D (fun _ => True) [(o, .inr (0, [.int lf, .ref oa, .int rs.2])), (oa, .inl (cI, 600, .inl rs.1))] ∧ zOk U)) (va_Qv (fun (u : Rw) => u = (FX0_setBit lf rs p0 p1)) (fun (u : Rw) (t : State) => va_P (dC, dI) vwCl [(o, .inr (0, [.int lf, .ref oa, .int u.2])), (oa, .inl (cI, 600, .inl u.1))] t.heap ∧ va_D (va_A [(o, .inr (0, [.int lf, .ref oa, .int rs.2])), (oa, .inl (cI, 600, .inl rs.1))] sz) [(o, .inr (0, [.int lf, .ref oa, .int u.2])), (oa, .inl (cI, 600, .inl u.1))]) (va_A [(o, .inr (0, [.int lf, .ref oa, .int rs.2])), (oa, .inl (cI, 600, .inl rs.1))] sz)) 0 0 (va_A [(o, .inr (0, [.int lf, .ref oa, .int rs.2])), (oa, .inl (cI, 600, .inl rs.1))] sz) := by
  refine Met.ofW (cc := cX0_setBit) (maxL := 5) (ret := none) (by decide) rfl ?_
  intro p e s m args below meth c s₁ B hml hv
  obtain ⟨rfl, hsz, hP, hK, hD0, hZ⟩ := hv
  have hx := B.exec
  have hb := B.bytes
  have hr := B.returns
  have hts : ∀ w ∈ G, w.before [.ref o, .int p0, .int p1].toArray s = true := fun w h => atoms_spec (ws := (Cond.code yX0_setBit cX0_setBit 5 none :: G)) B.pre w (List.mem_cons_of_mem _ h)
  have hown : s.vm.findClass RX0 = some m.cls := findClass_of_methodNamed B.named
  have hlocks := B.notSynchronized
  subst hsz
  have hD := hD0.self (sz := s.heap.size)
  generalize hAe : va_A [(o, .inr (0, [.int lf, .ref oa, .int rs.2])), (oa, .inl (cI, 600, .inl rs.1))] s.heap.size = A at hD ⊢
  have hA : ∀ q : Nat, s.heap.size ≤ q → A q := fun q h => by rw [← hAe]; exact Or.inr h
  have hS : va_S A s.heap s.heap [] := va_S.rf
  have hP : va_P (dC, dI) vwCl [(o, .inr (0, [.int lf, .ref oa, .int rs.2])), (oa, .inl (cI, 600, .inl rs.1))] s.heap := hP
  have hl := lv_entry ([.ref o, .int p0, .int p1]) (n := 5) (Nat.le_of_ble_eq_true rfl)
  rw [lg_entry_eq]
  generalize (lg_sl ([.ref o, .int p0, .int p1]) ++ List.replicate (5 - (lg_sl ([.ref o, .int p0, .int p1])).length) Slot.unset).toArray = ls at hl ⊢
  have hl : lv_has ls 5 [(0, .ref o), (1, .int p0), (2, .int p1)] := hl
  refine lv_iload_n hx hb dX0_setBit_0 rfl (lv_at hl 1 rfl) ?_
  refine lv_iconst (v := 3) hx hb dX0_setBit_1 (by decide) ?_
  refine lv_ishr hx hb dX0_setBit_2 ?_
  refine lv_topi (fun x_1 ex_1 => ?_)
  refine lv_istore_n (lv' := [(3, .int x_1), (0, .ref o), (1, .int p0), (2, .int p1)]) hx hb dX0_setBit_3 rfl hl (by decide) rfl (fun ls hl => ?_)
  refine lv_iload_n hx hb dX0_setBit_4 rfl (lv_at hl 0 rfl) ?_
  refine lv_if_lt (tgt := 17) hx hb dX0_setBit_5 (by decide) (fun c_5 => ?_) (fun c_5 => ?_)
  · have hP9 := hP.sub (ws' := [(o, .inr (0, [.int lf, .ref oa, .int rs.2])), (oa, .inl (cI, 600, .inl rs.1))]) [0, 1] rfl
    have hD9 := hD.sub (ws' := [(o, .inr (0, [.int lf, .ref oa, .int rs.2])), (oa, .inl (cI, 600, .inl rs.1))]) [0, 1] (by decide) rfl
    exact W.vret hx hb hr (fun t ht hW => ⟨⟨rs, rfl, (plX0_setBit_0 lf rs p0 p1 _ ex_1 c_5), by rw [ht]; exact hP9, hD9⟩, hS.F ht⟩) hS.2.2 dX0_setBit_17
  · refine lv_iload_n hx hb dX0_setBit_8 rfl (lv_at hl 0 rfl) ?_
    refine lv_aload_n hx hb dX0_setBit_9 rfl (lv_at hl 1 rfl) ?_
    refine va_get (D := (dC, dI)) (ci := 0) (v := .ref oa) (C := RX0) (T := TX0) (N := 3) hx hb hts inGX0 hown hK hP 0 rfl rfl 1 (by decide) (hts _ wd60) (fun _ h9 => h9) rfl dX0_setBit_10 ?_
    refine va_alen (v := 600) hx hb hK hP 1 0 rfl rfl rfl dX0_setBit_13 ?_
    refine lv_icmp_lt (tgt := 18) hx hb dX0_setBit_14 (by decide) (fun c_14 => ?_) (fun c_14 => ?_)
    · refine lv_aload_n hx hb dX0_setBit_18 rfl (lv_at hl 1 rfl) ?_
      refine lv_iload_n hx hb dX0_setBit_19 rfl (lv_at hl 2 rfl) ?_
      have hPc := hP.sub (ws' := [(o, .inr (0, [.int lf, .ref oa, .int rs.2])), (oa, .inl (cI, 600, .inl rs.1))]) [0, 1] rfl
      have hKc := hK.sub (tys' := [(cI, .int)]) [0] rfl
      refine vp_callSi (va_Run.run (va_runV (As := [.int p0]) (rest := []) ⟨hx, hb, hml, hown, hts⟩ (mX0_shiftInByte l dC dI cI o oa lf rs p0) (cwV 1 hts (gV wd155 wd156 wd1 wd28 wd157) rfl rfl rfl (by decide +kernel) ⟨Nat.le_of_ble_eq_true rfl, Nat.le_of_ble_eq_true rfl⟩) ⟨fb_ro, va_recv hKc hPc (ci := 0) (q0 := 0) rfl rfl, pre_ro hPc hKc hZ⟩ rfl rfl hl.1 rfl (lv_room (Nat.le_of_ble_eq_true rfl)) dX0_setBit_20 ⟨Nat.le_of_ble_eq_true rfl, Nat.le_of_ble_eq_true rfl⟩)) (fun r_2 hw_3 => ?_)
      refine lv_istore (lv' := [(4, .int r_2), (3, .int x_1), (0, .ref o), (1, .int p0), (2, .int p1)]) hx hb dX0_setBit_23 hl (by decide) rfl (fun ls hl => ?_)
      refine lv_aload_n hx hb dX0_setBit_25 rfl (lv_at hl 2 rfl) ?_
      refine va_get (D := (dC, dI)) (ci := 0) (v := .ref oa) (C := RX0) (T := TX0) (N := 3) hx hb hts inGX0 hown hK hP 0 rfl rfl 1 (by decide) (hts _ wd60) (fun _ h9 => h9) rfl dX0_setBit_26 ?_
      refine lv_iload_n hx hb dX0_setBit_29 rfl (lv_at hl 1 rfl) ?_
      refine lv_aload_n hx hb dX0_setBit_30 rfl (lv_at hl 2 rfl) ?_
      refine va_get (D := (dC, dI)) (ci := 0) (v := .ref oa) (C := RX0) (T := TX0) (N := 3) hx hb hts inGX0 hown hK hP 0 rfl rfl 1 (by decide) (hts _ wd60) (fun _ h9 => h9) rfl dX0_setBit_31 ?_
      refine lv_iload_n hx hb dX0_setBit_34 rfl (lv_at hl 1 rfl) ?_
      refine va_iald hx hb hK hP 1 0 rfl rfl (vin2 c_5 (nlt2 c_14) (by decide)) dX0_setBit_35 ?_
      refine lv_iconst (v := 1) hx hb dX0_setBit_36 (by decide) ?_
      refine lv_iload hx hb dX0_setBit_37 (lv_at hl 0 rfl) ?_
      refine lv_ishl hx hb dX0_setBit_39 ?_
      refine lv_iconst (v := (-1)) hx hb dX0_setBit_40 (by decide) ?_
      refine lv_ixor hx hb dX0_setBit_41 ?_
      refine lv_iand hx hb dX0_setBit_42 ?_
      refine lv_iload_n hx hb dX0_setBit_43 rfl (lv_at hl 4 rfl) ?_
      refine lv_iload hx hb dX0_setBit_44 (lv_at hl 0 rfl) ?_
      refine lv_ishl hx hb dX0_setBit_46 ?_
      refine lv_ior hx hb dX0_setBit_47 ?_
      refine lv_topi (fun f_4 ef_4 => ?_)
      refine va_iast hx hb hK hP hD hS 1 0 rfl rfl (vin2 c_5 (nlt2 c_14) (by decide)) dX0_setBit_48 (fun H locs hP hD hS => ?_)
      have hP : va_P (dC, dI) vwCl [(o, .inr (0, [.int lf, .ref oa, .int rs.2])), (oa, .inl (cI, 600, .inl (upd rs.1 x_1.toNatClampNeg f_4)))] H := hP
      have hD : va_D A [(o, .inr (0, [.int lf, .ref oa, .int rs.2])), (oa, .inl (cI, 600, .inl (upd rs.1 x_1.toNatClampNeg f_4)))] := hD
      refine lv_aload_n hx hb dX0_setBit_49 rfl (lv_at hl 2 rfl) ?_
      refine lv_aload_n hx hb dX0_setBit_50 rfl (lv_at hl 2 rfl) ?_
      refine va_get (D := (dC, dI)) (ci := 0) (v := .int rs.2) (C := RX0) (T := TX0) (N := 3) hx hb hts inGX0 hown hK hP 0 rfl rfl 2 (by decide) (hts _ wd61) (fun _ h9 => h9) rfl dX0_setBit_51 ?_
      refine lv_iload_n hx hb dX0_setBit_54 rfl (lv_at hl 1 rfl) ?_
      refine lv_iconst (v := 1) hx hb dX0_setBit_55 (by decide) ?_
      refine lv_iadd hx hb dX0_setBit_56 ?_
      refine va_mmax hx hb (hml.trans hl.1.symm) hown (hts _ wd295) (hts _ wd51) (hts _ wd27) (hts _ wd52) (Nat.le_of_ble_eq_true rfl) (Nat.le_of_ble_eq_true rfl) (Nat.le_of_ble_eq_true rfl) (Nat.le_of_ble_eq_true rfl) dX0_setBit_57 ?_
      refine lv_topi (fun x_5 ex_5 => ?_)
      refine va_put (D := (dC, dI)) (ci := 0) (v := .int x_5) (ty := .int) (C := RX0) (T := TX0) (N := 3) hx hb hts inGX0 tyX0 tyX0_ok nmX0 hown hK hP hD hS 0 rfl rfl 2 (by decide) (hts _ wd61) (fun _ h9 => h9) rfl (by decide +kernel) rfl rfl (Nat.le_of_ble_eq_true rfl) dX0_setBit_60 (fun H locs hP hD hS => ?_)
      have hP : va_P (dC, dI) vwCl [(o, .inr (0, [.int lf, .ref oa, .int x_5])), (oa, .inl (cI, 600, .inl (upd rs.1 x_1.toNatClampNeg f_4)))] H := hP
      have hD : va_D A [(o, .inr (0, [.int lf, .ref oa, .int x_5])), (oa, .inl (cI, 600, .inl (upd rs.1 x_1.toNatClampNeg f_4)))] := hD
      have hP9 := hP.sub (ws' := [(o, .inr (0, [.int lf, .ref oa, .int x_5])), (oa, .inl (cI, 600, .inl (upd rs.1 x_1.toNatClampNeg f_4)))]) [0, 1] rfl
      have hD9 := hD.sub (ws' := [(o, .inr (0, [.int lf, .ref oa, .int x_5])), (oa, .inl (cI, 600, .inl (upd rs.1 x_1.toNatClampNeg f_4)))]) [0, 1] (by decide) rfl
      exact W.vret hx hb hr (fun t ht hW => ⟨⟨(upd rs.1 x_1.toNatClampNeg f_4, x_5), rfl, (plX0_setBit_1 lf rs p0 p1 _ ex_1 c_5 c_14 _ hw_3 _ ef_4 _ ex_5), by rw [ht]; exact hP9, hD9⟩, hS.F ht⟩) hS.2.2 dX0_setBit_63
    · have hP9 := hP.sub (ws' := [(o, .inr (0, [.int lf, .ref oa, .int rs.2])), (oa, .inl (cI, 600, .inl rs.1))]) [0, 1] rfl
      have hD9 := hD.sub (ws' := [(o, .inr (0, [.int lf, .ref oa, .int rs.2])), (oa, .inl (cI, 600, .inl rs.1))]) [0, 1] (by decide) rfl
      exact W.vret hx hb hr (fun t ht hW => ⟨⟨rs, rfl, (plX0_setBit_2 lf rs p0 p1 _ ex_1 c_5 c_14), by rw [ht]; exact hP9, hD9⟩, hS.F ht⟩) hS.2.2 dX0_setBit_17
def FX0_addByte (lf : Int32) (rs : Rw) (p0 : Int32) : Rw :=
  if rs.2 < 0 then
    rs
  else
    if 600 ≤ rs.2 then
      rs
    else
      let f_1 := rs.2 + 1
      (upd rs.1 rs.2.toNatClampNeg p0, f_1)
set_option maxRecDepth 100000 in
theorem plX0_addByte_0 (lf : Int32) (rs : Rw) (p0 : Int32) (c_4 : rs.2 < 0) : rs = FX0_addByte lf rs p0 := by
  exact (if_pos c_4).symm
set_option maxRecDepth 100000 in
theorem plX0_addByte_1 (lf : Int32) (rs : Rw) (p0 : Int32) (c_4 : ¬ (rs.2 < 0)) (c_16 : 600 ≤ rs.2) : rs = FX0_addByte lf rs p0 := by
  exact ((if_neg c_4).trans (if_pos c_16)).symm
set_option maxRecDepth 100000 in
theorem plX0_addByte_2 (lf : Int32) (rs : Rw) (p0 : Int32) (c_4 : ¬ (rs.2 < 0)) (c_16 : ¬ (600 ≤ rs.2)) (f_1 : Int32) (ef_1 : f_1 = rs.2 + 1) : (upd rs.1 rs.2.toNatClampNeg p0, f_1) = FX0_addByte lf rs p0 := by
  subst ef_1
  exact ((if_neg c_4).trans (if_neg c_16)).symm
set_option maxHeartbeats 4000000 in
set_option maxRecDepth 100000 in
theorem mX0_addByte (l : Launch) (dC : Nat → ClassId) (dI : Nat → Nat → Nat) (cI : ClassId) (o oa : Nat) (sz : Nat) (lf : Int32) (rs : Rw) (p0 : Int32) : Met l yX0_addByte (Cond.code yX0_addByte cX0_addByte 2 none :: G) ({ frames := 0, cells := 0, slots := 0, locals := 0 } : Room) (va_Pc [.ref o, .int p0] (fun U => U.heap.size = sz ∧ va_P (dC, dI) vwCl [(o, .inr (0, [.int lf, .ref oa, .int rs.2])), (oa, .inl (cI, 600, .inl rs.1))] U.heap ∧ va_K (dC, dI) vwCl [(cI, .int)] U ∧ va_D (fun _ => True) [(o, .inr (0, [.int lf, .ref oa, .int rs.2])), (oa, .inl (cI, 600, .inl rs.1))] ∧ zOk U)) (va_Qv (fun (u : Rw) => u = (FX0_addByte lf rs p0)) (fun (u : Rw) (t : State) => va_P (dC, dI) vwCl [(o, .inr (0, [.int lf, .ref oa, .int u.2])), (oa, .inl (cI, 600, .inl u.1))] t.heap ∧ va_D (va_A [(o, .inr (0, [.int lf, .ref oa, .int rs.2])), (oa, .inl (cI, 600, .inl rs.1))] sz) [(o, .inr (0, [.int lf, .ref oa, .int u.2])), (oa, .inl (cI, 600, .inl u.1))]) (va_A [(o, .inr (0, [.int lf, .ref oa, .int rs.2])), (oa, .inl (cI, 600, .inl rs.1))] sz)) 0 0 (va_A [(o, .inr (0, [.int lf, .ref oa, .int rs.2])), (oa, .inl (cI, 600, .inl rs.1))] sz) := by
  refine Met.ofW (cc := cX0_addByte) (maxL := 2) (ret := none) (by decide) rfl ?_
  intro p e s m args below meth c s₁ B hml hv
  obtain ⟨rfl, hsz, hP, hK, hD0, hZ⟩ := hv
  have hx := B.exec
  have hb := B.bytes
  have hr := B.returns
  have hts : ∀ w ∈ G, w.before [.ref o, .int p0].toArray s = true := fun w h => atoms_spec (ws := (Cond.code yX0_addByte cX0_addByte 2 none :: G)) B.pre w (List.mem_cons_of_mem _ h)
  have hown : s.vm.findClass RX0 = some m.cls := findClass_of_methodNamed B.named
  have hlocks := B.notSynchronized
  subst hsz
  have hD := hD0.self (sz := s.heap.size)
  generalize hAe : va_A [(o, .inr (0, [.int lf, .ref oa, .int rs.2])), (oa, .inl (cI, 600, .inl rs.1))] s.heap.size = A at hD ⊢
  have hA : ∀ q : Nat, s.heap.size ≤ q → A q := fun q h => by rw [← hAe]; exact Or.inr h
  have hS : va_S A s.heap s.heap [] := va_S.rf
  have hP : va_P (dC, dI) vwCl [(o, .inr (0, [.int lf, .ref oa, .int rs.2])), (oa, .inl (cI, 600, .inl rs.1))] s.heap := hP
  have hl := lv_entry ([.ref o, .int p0]) (n := 2) (Nat.le_of_ble_eq_true rfl)
  rw [lg_entry_eq]
  generalize (lg_sl ([.ref o, .int p0]) ++ List.replicate (2 - (lg_sl ([.ref o, .int p0])).length) Slot.unset).toArray = ls at hl ⊢
  have hl : lv_has ls 2 [(0, .ref o), (1, .int p0)] := hl
  refine lv_aload_n hx hb dX0_addByte_0 rfl (lv_at hl 0 rfl) ?_
  refine va_get (D := (dC, dI)) (ci := 0) (v := .int rs.2) (C := RX0) (T := TX0) (N := 3) hx hb hts inGX0 hown hK hP 0 rfl rfl 2 (by decide) (hts _ wd61) (fun _ h9 => h9) rfl dX0_addByte_1 ?_
  refine lv_if_lt (tgt := 39) hx hb dX0_addByte_4 (by decide) (fun c_4 => ?_) (fun c_4 => ?_)
  · have hP9 := hP.sub (ws' := [(o, .inr (0, [.int lf, .ref oa, .int rs.2])), (oa, .inl (cI, 600, .inl rs.1))]) [0, 1] rfl
    have hD9 := hD.sub (ws' := [(o, .inr (0, [.int lf, .ref oa, .int rs.2])), (oa, .inl (cI, 600, .inl rs.1))]) [0, 1] (by decide) rfl
    exact W.vret hx hb hr (fun t ht hW => ⟨⟨rs, rfl, (plX0_addByte_0 lf rs p0 c_4), by rw [ht]; exact hP9, hD9⟩, hS.F ht⟩) hS.2.2 dX0_addByte_39
  · refine lv_aload_n hx hb dX0_addByte_7 rfl (lv_at hl 0 rfl) ?_
    refine va_get (D := (dC, dI)) (ci := 0) (v := .int rs.2) (C := RX0) (T := TX0) (N := 3) hx hb hts inGX0 hown hK hP 0 rfl rfl 2 (by decide) (hts _ wd61) (fun _ h9 => h9) rfl dX0_addByte_8 ?_
    refine lv_aload_n hx hb dX0_addByte_11 rfl (lv_at hl 0 rfl) ?_
    refine va_get (D := (dC, dI)) (ci := 0) (v := .ref oa) (C := RX0) (T := TX0) (N := 3) hx hb hts inGX0 hown hK hP 0 rfl rfl 1 (by decide) (hts _ wd60) (fun _ h9 => h9) rfl dX0_addByte_12 ?_
    refine va_alen (v := 600) hx hb hK hP 1 0 rfl rfl rfl dX0_addByte_15 ?_
    refine lv_icmp_ge (tgt := 39) hx hb dX0_addByte_16 (by decide) (fun c_16 => ?_) (fun c_16 => ?_)
    · have hP9 := hP.sub (ws' := [(o, .inr (0, [.int lf, .ref oa, .int rs.2])), (oa, .inl (cI, 600, .inl rs.1))]) [0, 1] rfl
      have hD9 := hD.sub (ws' := [(o, .inr (0, [.int lf, .ref oa, .int rs.2])), (oa, .inl (cI, 600, .inl rs.1))]) [0, 1] (by decide) rfl
      exact W.vret hx hb hr (fun t ht hW => ⟨⟨rs, rfl, (plX0_addByte_1 lf rs p0 c_4 c_16), by rw [ht]; exact hP9, hD9⟩, hS.F ht⟩) hS.2.2 dX0_addByte_39
    · refine lv_aload_n hx hb dX0_addByte_19 rfl (lv_at hl 0 rfl) ?_
      refine va_get (D := (dC, dI)) (ci := 0) (v := .ref oa) (C := RX0) (T := TX0) (N := 3) hx hb hts inGX0 hown hK hP 0 rfl rfl 1 (by decide) (hts _ wd60) (fun _ h9 => h9) rfl dX0_addByte_20 ?_
      refine lv_aload_n hx hb dX0_addByte_23 rfl (lv_at hl 0 rfl) ?_
      refine va_get (D := (dC, dI)) (ci := 0) (v := .int rs.2) (C := RX0) (T := TX0) (N := 3) hx hb hts inGX0 hown hK hP 0 rfl rfl 2 (by decide) (hts _ wd61) (fun _ h9 => h9) rfl dX0_addByte_24 ?_
      refine lv_iload_n hx hb dX0_addByte_27 rfl (lv_at hl 1 rfl) ?_
      refine va_iast hx hb hK hP hD hS 1 0 rfl rfl (vin2 c_4 c_16 (by decide)) dX0_addByte_28 (fun H locs hP hD hS => ?_)
      have hP : va_P (dC, dI) vwCl [(o, .inr (0, [.int lf, .ref oa, .int rs.2])), (oa, .inl (cI, 600, .inl (upd rs.1 rs.2.toNatClampNeg p0)))] H := hP
      have hD : va_D A [(o, .inr (0, [.int lf, .ref oa, .int rs.2])), (oa, .inl (cI, 600, .inl (upd rs.1 rs.2.toNatClampNeg p0)))] := hD
      refine lv_aload_n hx hb dX0_addByte_29 rfl (lv_at hl 0 rfl) ?_
      refine lv_dup hx hb dX0_addByte_30 rfl ?_
      refine va_get (D := (dC, dI)) (ci := 0) (v := .int rs.2) (C := RX0) (T := TX0) (N := 3) hx hb hts inGX0 hown hK hP 0 rfl rfl 2 (by decide) (hts _ wd61) (fun _ h9 => h9) rfl dX0_addByte_31 ?_
      refine lv_iconst (v := 1) hx hb dX0_addByte_34 (by decide) ?_
      refine lv_iadd hx hb dX0_addByte_35 ?_
      refine lv_topi (fun f_1 ef_1 => ?_)
      refine va_put (D := (dC, dI)) (ci := 0) (v := .int f_1) (ty := .int) (C := RX0) (T := TX0) (N := 3) hx hb hts inGX0 tyX0 tyX0_ok nmX0 hown hK hP hD hS 0 rfl rfl 2 (by decide) (hts _ wd61) (fun _ h9 => h9) rfl (by decide +kernel) rfl rfl (Nat.le_of_ble_eq_true rfl) dX0_addByte_36 (fun H locs hP hD hS => ?_)
      have hP : va_P (dC, dI) vwCl [(o, .inr (0, [.int lf, .ref oa, .int f_1])), (oa, .inl (cI, 600, .inl (upd rs.1 rs.2.toNatClampNeg p0)))] H := hP
      have hD : va_D A [(o, .inr (0, [.int lf, .ref oa, .int f_1])), (oa, .inl (cI, 600, .inl (upd rs.1 rs.2.toNatClampNeg p0)))] := hD
      have hP9 := hP.sub (ws' := [(o, .inr (0, [.int lf, .ref oa, .int f_1])), (oa, .inl (cI, 600, .inl (upd rs.1 rs.2.toNatClampNeg p0)))]) [0, 1] rfl
      have hD9 := hD.sub (ws' := [(o, .inr (0, [.int lf, .ref oa, .int f_1])), (oa, .inl (cI, 600, .inl (upd rs.1 rs.2.toNatClampNeg p0)))]) [0, 1] (by decide) rfl
      exact W.vret hx hb hr (fun t ht hW => ⟨⟨(upd rs.1 rs.2.toNatClampNeg p0, f_1), rfl, (plX0_addByte_2 lf rs p0 c_4 c_16 _ ef_1), by rw [ht]; exact hP9, hD9⟩, hS.F ht⟩) hS.2.2 dX0_addByte_39
