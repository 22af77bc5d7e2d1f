def FX1_isWithin (st : Int32) (sib : Int32) (lf : Int32) (ts : Tk) (rs : Rw) : Int32 :=
  if (8 * rs.2) ≤ ts.1 then
    0
  else
    1
set_option maxRecDepth 100000 in
theorem plX1_isWithin_0 (st : Int32) (sib : Int32) (lf : Int32) (ts : Tk) (rs : Rw) (c_14 : (8 * rs.2) ≤ ts.1) : 0 = FX1_isWithin st sib lf ts rs := by
  exact (if_pos c_14).symm
set_option maxRecDepth 100000 in
theorem plX1_isWithin_1 (st : Int32) (sib : Int32) (lf : Int32) (ts : Tk) (rs : Rw) (c_14 : ¬ ((8 * rs.2) ≤ ts.1)) : 1 = FX1_isWithin st sib lf ts rs := by
  exact (if_neg c_14).symm
set_option maxHeartbeats 4000000 in
set_option maxRecDepth 100000 in
theorem mX1_isWithin (l : Launch) (dC : Nat → ClassId) (dI : Nat → Nat → Nat) (cI : ClassId) (o oR oa : Nat) (st : Int32) (sib : Int32) (lf : Int32) (ts : Tk) (rs : Rw) : Met l yX1_isWithin (Cond.code yX1_isWithin cX1_isWithin 1 (some .boolean) :: G) ({ frames := 0, cells := 0, slots := 0, locals := 0 } : Room) (va_Pc [.ref o] (fun U => va_P (dC, dI) vwCl [(o, .inr (1, [.ref oR, .int st, .int sib, .int ts.1, .int ts.2.1, .int ts.2.2.1, .int ts.2.2.2])), (oR, .inr (0, [.int lf, .ref oa, .int rs.2])), (oa, .inl (cI, 600, .inl rs.1))] U.heap ∧ va_K (dC, dI) vwCl [(cI, .int)] U ∧ zOk U)) (vp_Si (fun r => r = (FX1_isWithin st sib lf ts rs))) 0 0 (fun _ => False) := by
  refine Met.ofW (cc := cX1_isWithin) (maxL := 1) (ret := (some .boolean)) (by decide) rfl ?_
  intro p e s m args below meth c s₁ B hml hv
  obtain ⟨rfl, hP, hK, hZ⟩ := hv
  have hx := B.exec
  have hb := B.bytes
  have hr := B.returns
  have hts : ∀ w ∈ G, w.before [.ref o].toArray s = true := fun w h => atoms_spec (ws := (Cond.code yX1_isWithin cX1_isWithin 1 (some .boolean) :: G)) B.pre w (List.mem_cons_of_mem _ h)
  have hown : s.vm.findClass RX1 = some m.cls := findClass_of_methodNamed B.named
  have hlocks := B.notSynchronized
  have hl := lv_entry ([.ref o]) (n := 1) (Nat.le_of_ble_eq_true rfl)
  rw [lg_entry_eq]
  generalize (lg_sl ([.ref o]) ++ List.replicate (1 - (lg_sl ([.ref o])).length) Slot.unset).toArray = ls at hl ⊢
  have hl : lv_has ls 1 [(0, .ref o)] := hl
  refine lv_aload_n hx hb dX1_isWithin_0 rfl (lv_at hl 0 rfl) ?_
  refine va_get (D := (dC, dI)) (ci := 1) (v := .int ts.1) (C := RX1) (T := TX1) (N := 7) hx hb hts inGX1 hown hK hP 0 rfl rfl 3 (by decide) (hts _ wd79) (fun _ h9 => h9) rfl dX1_isWithin_1 ?_
  refine lv_bipush (v := 8) hx hb dX1_isWithin_4 (by decide) ?_
  refine lv_aload_n hx hb dX1_isWithin_6 rfl (lv_at hl 0 rfl) ?_
  refine va_get (D := (dC, dI)) (ci := 1) (v := .ref oR) (C := RX1) (T := TX1) (N := 7) hx hb hts inGX1 hown hK hP 0 rfl rfl 0 (by decide) (hts _ wd76) (fun _ h9 => h9) rfl dX1_isWithin_7 ?_
  refine va_getN (D := (dC, dI)) (ci := 0) (v := .int rs.2) (C := RX0) (T := TX0) (N := 3) hx hb hts inGX0 hown hK hP 1 rfl rfl 2 (by decide) (hZ.use zw0 rfl) (fun _ h9 => h9) rfl dX1_isWithin_10 ?_
  refine lv_imul hx hb dX1_isWithin_13 ?_
  refine lv_icmp_ge (tgt := 21) hx hb dX1_isWithin_14 (by decide) (fun c_14 => ?_) (fun c_14 => ?_)
  · refine lv_iconst (v := 0) hx hb dX1_isWithin_21 (by decide) ?_
    exact W.zret (v := 0) (ty := .boolean) hx hb hr rfl (fun t ht hW => ⟨0, rfl, (plX1_isWithin_0 st sib lf ts rs c_14), ht⟩) (fun q h => nomatch h) dX1_isWithin_22
  · refine lv_iconst (v := 1) hx hb dX1_isWithin_17 (by decide) ?_
    refine lv_goto (tgt := 22) hx hb dX1_isWithin_18 (by decide) ?_
    exact W.zret (v := 1) (ty := .boolean) hx hb hr rfl (fun t ht hW => ⟨1, rfl, (plX1_isWithin_1 st sib lf ts rs c_14), ht⟩) (fun q h => nomatch h) dX1_isWithin_22
def FX1_isAtByte (st : Int32) (sib : Int32) (lf : Int32) (ts : Tk) (rs : Rw) : Int32 :=
  if (ts.1 &&& 7) = 0 then
    1
  else
    0
set_option maxRecDepth 100000 in
theorem plX1_isAtByte_0 (st : Int32) (sib : Int32) (lf : Int32) (ts : Tk) (rs : Rw) (c_7 : ¬ ((ts.1 &&& 7) = 0)) : 0 = FX1_isAtByte st sib lf ts rs := by
  exact (if_neg c_7).symm
set_option maxRecDepth 100000 in
theorem plX1_isAtByte_1 (st : Int32) (sib : Int32) (lf : Int32) (ts : Tk) (rs : Rw) (c_7 : (ts.1 &&& 7) = 0) : 1 = FX1_isAtByte st sib lf ts rs := by
  exact (if_pos c_7).symm
set_option maxHeartbeats 4000000 in
set_option maxRecDepth 100000 in
theorem mX1_isAtByte (l : Launch) (dC : Nat → ClassId) (dI : Nat → Nat → Nat) (cI : ClassId) (o oR oa : Nat) (st : Int32) (sib : Int32) (lf : Int32) (ts : Tk) (rs : Rw) : Met l yX1_isAtByte (Cond.code yX1_isAtByte cX1_isAtByte 1 (some .boolean) :: G) ({ frames := 0, cells := 0, slots := 0, locals := 0 } : Room) (va_Pc [.ref o] (fun U => va_P (dC, dI) vwCl [(o, .inr (1, [.ref oR, .int st, .int sib, .int ts.1, .int ts.2.1, .int ts.2.2.1, .int ts.2.2.2])), (oR, .inr (0, [.int lf, .ref oa, .int rs.2])), (oa, .inl (cI, 600, .inl rs.1))] U.heap ∧ va_K (dC, dI) vwCl [(cI, .int)] U ∧ zOk U)) (vp_Si (fun r => r = (FX1_isAtByte st sib lf ts rs))) 0 0 (fun _ => False) := by
  refine Met.ofW (cc := cX1_isAtByte) (maxL := 1) (ret := (some .boolean)) (by decide) rfl ?_
  intro p e s m args below meth c s₁ B hml hv
  obtain ⟨rfl, hP, hK, hZ⟩ := hv
  have hx := B.exec
  have hb := B.bytes
  have hr := B.returns
  have hts : ∀ w ∈ G, w.before [.ref o].toArray s = true := fun w h => atoms_spec (ws := (Cond.code yX1_isAtByte cX1_isAtByte 1 (some .boolean) :: G)) B.pre w (List.mem_cons_of_mem _ h)
  have hown : s.vm.findClass RX1 = some m.cls := findClass_of_methodNamed B.named
  have hlocks := B.notSynchronized
  have hl := lv_entry ([.ref o]) (n := 1) (Nat.le_of_ble_eq_true rfl)
  rw [lg_entry_eq]
  generalize (lg_sl ([.ref o]) ++ List.replicate (1 - (lg_sl ([.ref o])).length) Slot.unset).toArray = ls at hl ⊢
  have hl : lv_has ls 1 [(0, .ref o)] := hl
  refine lv_aload_n hx hb dX1_isAtByte_0 rfl (lv_at hl 0 rfl) ?_
  refine va_get (D := (dC, dI)) (ci := 1) (v := .int ts.1) (C := RX1) (T := TX1) (N := 7) hx hb hts inGX1 hown hK hP 0 rfl rfl 3 (by decide) (hts _ wd79) (fun _ h9 => h9) rfl dX1_isAtByte_1 ?_
  refine lv_bipush (v := 7) hx hb dX1_isAtByte_4 (by decide) ?_
  refine lv_iand hx hb dX1_isAtByte_6 ?_
  refine lv_if_ne (tgt := 14) hx hb dX1_isAtByte_7 (by decide) (fun c_7 => ?_) (fun c_7 => ?_)
  · refine lv_iconst (v := 0) hx hb dX1_isAtByte_14 (by decide) ?_
    exact W.zret (v := 0) (ty := .boolean) hx hb hr rfl (fun t ht hW => ⟨0, rfl, (plX1_isAtByte_0 st sib lf ts rs c_7), ht⟩) (fun q h => nomatch h) dX1_isAtByte_15
  · refine lv_iconst (v := 1) hx hb dX1_isAtByte_10 (by decide) ?_
    refine lv_goto (tgt := 15) hx hb dX1_isAtByte_11 (by decide) ?_
    exact W.zret (v := 1) (ty := .boolean) hx hb hr rfl (fun t ht hW => ⟨1, rfl, (plX1_isAtByte_1 st sib lf ts rs c_7), ht⟩) (fun q h => nomatch h) dX1_isAtByte_15
def FX1_isBehindFullByte (st : Int32) (sib : Int32) (lf : Int32) (ts : Tk) (rs : Rw) : Int32 :=
  let x_1 := ts.1 >>> (3 &&& 31)
  if x_1 ≤ 0 then
    0
  else
    if x_1 = ts.2.2.2 then
      0
    else
      let r_2 := FX0_byteOf lf rs (x_1 - 1)
      if r_2 = 255 then
        1
      else
        0
set_option maxRecDepth 100000 in
theorem plX1_isBehindFullByte_0 (st : Int32) (sib : Int32) (lf : Int32) (ts : Tk) (rs : Rw) (x_1 : Int32) (ex_1 : x_1 = ts.1 >>> (3 &&& 31)) (c_8 : x_1 ≤ 0) : 0 = FX1_isBehindFullByte st sib lf ts rs := by
  subst ex_1
  exact (if_pos c_8).symm
set_option maxRecDepth 100000 in
theorem plX1_isBehindFullByte_1 (st : Int32) (sib : Int32) (lf : Int32) (ts : Tk) (rs : Rw) (x_1 : Int32) (ex_1 : x_1 = ts.1 >>> (3 &&& 31)) (c_8 : ¬ (x_1 ≤ 0)) (c_16 : x_1 = ts.2.2.2) : 0 = FX1_isBehindFullByte st sib lf ts rs := by
  subst ex_1
  exact ((if_neg c_8).trans (if_pos c_16)).symm
set_option maxRecDepth 100000 in
theorem plX1_isBehindFullByte_2 (st : Int32) (sib : Int32) (lf : Int32) (ts : Tk) (rs : Rw) (x_1 : Int32) (ex_1 : x_1 = ts.1 >>> (3 &&& 31)) (c_8 : ¬ (x_1 ≤ 0)) (c_16 : ¬ (x_1 = ts.2.2.2)) (r_2 : Int32) (hw_3 : r_2 = FX0_byteOf lf rs (x_1 - 1)) (c_32 : ¬ (r_2 = 255)) : 0 = FX1_isBehindFullByte st sib lf ts rs := by
  subst ex_1
  subst hw_3
  exact (((if_neg c_8).trans (if_neg c_16)).trans (if_neg c_32)).symm
set_option maxRecDepth 100000 in
theorem plX1_isBehindFullByte_3 (st : Int32) (sib : Int32) (lf : Int32) (ts : Tk) (rs : Rw) (x_1 : Int32) (ex_1 : x_1 = ts.1 >>> (3 &&& 31)) (c_8 : ¬ (x_1 ≤ 0)) (c_16 : ¬ (x_1 = ts.2.2.2)) (r_2 : Int32) (hw_3 : r_2 = FX0_byteOf lf rs (x_1 - 1)) (c_32 : r_2 = 255) : 1 = FX1_isBehindFullByte st sib lf ts rs := by
  subst ex_1
  subst hw_3
  exact (((if_neg c_8).trans (if_neg c_16)).trans (if_pos c_32)).symm
set_option maxHeartbeats 4000000 in
set_option maxRecDepth 100000 in
theorem mX1_isBehindFullByte (l : Launch) (dC : Nat → ClassId) (dI : Nat → Nat → Nat) (cI : ClassId) (o oR oa : Nat) (st : Int32) (sib : Int32) (lf : Int32) (ts : Tk) (rs : Rw) : Met l yX1_isBehindFullByte (Cond.code yX1_isBehindFullByte cX1_isBehindFullByte 2 (some .boolean) :: G) ({ frames := 1, cells := 0, slots := 0, locals := 21 } : Room) (va_Pc [.ref o] (fun U => va_P (dC, dI) vwCl [(o, .inr (1, [.ref oR, .int st, .int sib, .int ts.1, .int ts.2.1, .int ts.2.2.1, .int ts.2.2.2])), (oR, .inr (0, [.int lf, .ref oa, .int rs.2])), (oa, .inl (cI, 600, .inl rs.1))] U.heap ∧ va_K (dC, dI) vwCl [(cI, .int)] U ∧ zOk U)) (vp_Si (fun r => r = (FX1_isBehindFullByte st sib lf ts rs))) 0 0 (fun _ => False) := by
  refine Met.ofW (cc := cX1_isBehindFullByte) (maxL := 2) (ret := (some .boolean)) (by decide) rfl ?_
  intro p e s m args below meth c s₁ B hml hv
  obtain ⟨rfl, hP, hK, hZ⟩ := hv
  have hx := B.exec
  have hb := B.bytes
  have hr := B.returns
  have hts : ∀ w ∈ G, w.before [.ref o].toArray s = true := fun w h => atoms_spec (ws := (Cond.code yX1_isBehindFullByte cX1_isBehindFullByte 2 (some .boolean) :: G)) B.pre w (List.mem_cons_of_mem _ h)
  have hown : s.vm.findClass RX1 = some m.cls := findClass_of_methodNamed B.named
  have hlocks := B.notSynchronized
  have hl := lv_entry ([.ref o]) (n := 2) (Nat.le_of_ble_eq_true rfl)
  rw [lg_entry_eq]
  generalize (lg_sl ([.ref o]) ++ List.replicate (2 - (lg_sl ([.ref o])).length) Slot.unset).toArray = ls at hl ⊢
  have hl : lv_has ls 2 [(0, .ref o)] := hl
  refine lv_aload_n hx hb dX1_isBehindFullByte_0 rfl (lv_at hl 0 rfl) ?_
  refine va_get (D := (dC, dI)) (ci := 1) (v := .int ts.1) (C := RX1) (T := TX1) (N := 7) hx hb hts inGX1 hown hK hP 0 rfl rfl 3 (by decide) (hts _ wd79) (fun _ h9 => h9) rfl dX1_isBehindFullByte_1 ?_
  refine lv_iconst (v := 3) hx hb dX1_isBehindFullByte_4 (by decide) ?_
  refine lv_ishr hx hb dX1_isBehindFullByte_5 ?_
  refine lv_topi (fun x_1 ex_1 => ?_)
  refine lv_istore_n (lv' := [(1, .int x_1), (0, .ref o)]) hx hb dX1_isBehindFullByte_6 rfl hl (by decide) rfl (fun ls hl => ?_)
  refine lv_iload_n hx hb dX1_isBehindFullByte_7 rfl (lv_at hl 0 rfl) ?_
  refine lv_if_le (tgt := 39) hx hb dX1_isBehindFullByte_8 (by decide) (fun c_8 => ?_) (fun c_8 => ?_)
  · refine lv_iconst (v := 0) hx hb dX1_isBehindFullByte_39 (by decide) ?_
    exact W.zret (v := 0) (ty := .boolean) hx hb hr rfl (fun t ht hW => ⟨0, rfl, (plX1_isBehindFullByte_0 st sib lf ts rs _ ex_1 c_8), ht⟩) (fun q h => nomatch h) dX1_isBehindFullByte_40
  · refine lv_iload_n hx hb dX1_isBehindFullByte_11 rfl (lv_at hl 0 rfl) ?_
    refine lv_aload_n hx hb dX1_isBehindFullByte_12 rfl (lv_at hl 1 rfl) ?_
    refine va_get (D := (dC, dI)) (ci := 1) (v := .int ts.2.2.2) (C := RX1) (T := TX1) (N := 7) hx hb hts inGX1 hown hK hP 0 rfl rfl 6 (by decide) (hts _ wd82) (fun _ h9 => h9) rfl dX1_isBehindFullByte_13 ?_
    refine lv_icmp_eq (tgt := 39) hx hb dX1_isBehindFullByte_16 (by decide) (fun c_16 => ?_) (fun c_16 => ?_)
    · refine lv_iconst (v := 0) hx hb dX1_isBehindFullByte_39 (by decide) ?_
      exact W.zret (v := 0) (ty := .boolean) hx hb hr rfl (fun t ht hW => ⟨0, rfl, (plX1_isBehindFullByte_1 st sib lf ts rs _ ex_1 c_8 c_16), ht⟩) (fun q h => nomatch h) dX1_isBehindFullByte_40
    · refine lv_aload_n hx hb dX1_isBehindFullByte_19 rfl (lv_at hl 1 rfl) ?_
      refine va_get (D := (dC, dI)) (ci := 1) (v := .ref oR) (C := RX1) (T := TX1) (N := 7) hx hb hts inGX1 hown hK hP 0 rfl rfl 0 (by decide) (hts _ wd76) (fun _ h9 => h9) rfl dX1_isBehindFullByte_20 ?_
      refine lv_iload_n hx hb dX1_isBehindFullByte_23 rfl (lv_at hl 0 rfl) ?_
      refine lv_iconst (v := 1) hx hb dX1_isBehindFullByte_24 (by decide) ?_
      refine lv_isub hx hb dX1_isBehindFullByte_25 ?_
      have hPc := hP.sub (ws' := [(oR, .inr (0, [.int lf, .ref oa, .int rs.2])), (oa, .inl (cI, 600, .inl rs.1))]) [1, 2] rfl
      have hKc := hK.sub (tys' := [(cI, .int)]) [0] rfl
      refine vp_callSi (va_Run.run (va_runV (As := [.int (x_1 - 1)]) (rest := []) ⟨hx, hb, hml, hown, hts⟩ (mX0_byteOf l dC dI cI oR oa lf rs (x_1 - 1)) (cwV 1 hts (gV wd138 wd139 wd140 wd28 wd141) rfl rfl rfl (by decide +kernel) ⟨Nat.le_of_ble_eq_true rfl, Nat.le_of_ble_eq_true rfl⟩) ⟨fb_ro, va_recv hKc hPc (ci := 0) (q0 := 0) rfl rfl, pre_ro hPc hKc hZ⟩ rfl rfl hl.1 rfl (lv_room (Nat.le_of_ble_eq_true rfl)) dX1_isBehindFullByte_26 ⟨Nat.le_of_ble_eq_true rfl, Nat.le_of_ble_eq_true rfl⟩)) (fun r_2 hw_3 => ?_)
      refine lv_sipush (v := 255) hx hb dX1_isBehindFullByte_29 (by decide) ?_
      refine lv_icmp_ne (tgt := 39) hx hb dX1_isBehindFullByte_32 (by decide) (fun c_32 => ?_) (fun c_32 => ?_)
      · refine lv_iconst (v := 0) hx hb dX1_isBehindFullByte_39 (by decide) ?_
        exact W.zret (v := 0) (ty := .boolean) hx hb hr rfl (fun t ht hW => ⟨0, rfl, (plX1_isBehindFullByte_2 st sib lf ts rs _ ex_1 c_8 c_16 _ hw_3 c_32), ht⟩) (fun q h => nomatch h) dX1_isBehindFullByte_40
      · refine lv_iconst (v := 1) hx hb dX1_isBehindFullByte_35 (by decide) ?_
        refine lv_goto (tgt := 40) hx hb dX1_isBehindFullByte_36 (by decide) ?_
        exact W.zret (v := 1) (ty := .boolean) hx hb hr rfl (fun t ht hW => ⟨1, rfl, (plX1_isBehindFullByte_3 st sib lf ts rs _ ex_1 c_8 c_16 _ hw_3 c_32), ht⟩) (fun q h => nomatch h) dX1_isBehindFullByte_40
def FX1_isAligned (st : Int32) (sib : Int32) (lf : Int32) (ts : Tk) (rs : Rw) : Int32 :=
  let r_1 := FX1_isAtByte st sib lf ts rs
  if r_1 = 0 then
    0
  else
    if st = 1 then
      let r_3 := FX1_isBehindFullByte st sib lf ts rs
      if r_3 = 0 then
        1
      else
        0
    else
      1
set_option maxRecDepth 100000 in
theorem plX1_isAligned_0 (st : Int32) (sib : Int32) (lf : Int32) (ts : Tk) (rs : Rw) (r_1 : Int32) (hw_2 : r_1 = FX1_isAtByte st sib lf ts rs) (c_4 : r_1 = 0) : 0 = FX1_isAligned st sib lf ts rs := by
  subst hw_2
  exact (if_pos c_4).symm
set_option maxRecDepth 100000 in
theorem plX1_isAligned_1 (st : Int32) (sib : Int32) (lf : Int32) (ts : Tk) (rs : Rw) (r_1 : Int32) (hw_2 : r_1 = FX1_isAtByte st sib lf ts rs) (c_4 : ¬ (r_1 = 0)) (c_12 : ¬ (st = 1)) : 1 = FX1_isAligned st sib lf ts rs := by
  subst hw_2
  exact ((if_neg c_4).trans (if_neg c_12)).symm
set_option maxRecDepth 100000 in
theorem plX1_isAligned_2 (st : Int32) (sib : Int32) (lf : Int32) (ts : Tk) (rs : Rw) (r_1 : Int32) (hw_2 : r_1 = FX1_isAtByte st sib lf ts rs) (c_4 : ¬ (r_1 = 0)) (c_12 : st = 1) (r_3 : Int32) (hw_4 : r_3 = FX1_isBehindFullByte st sib lf ts rs) (c_19 : ¬ (r_3 = 0)) : 0 = FX1_isAligned st sib lf ts rs := by
  subst hw_2
  subst hw_4
  exact (((if_neg c_4).trans (if_pos c_12)).trans (if_neg c_19)).symm
set_option maxRecDepth 100000 in
theorem plX1_isAligned_3 (st : Int32) (sib : Int32) (lf : Int32) (ts : Tk) (rs : Rw) (r_1 : Int32) (hw_2 : r_1 = FX1_isAtByte st sib lf ts rs) (c_4 : ¬ (r_1 = 0)) (c_12 : st = 1) (r_3 : Int32) (hw_4 : r_3 = FX1_isBehindFullByte st sib lf ts rs) (c_19 : r_3 = 0) : 1 = FX1_isAligned st sib lf ts rs := by
  subst hw_2
  subst hw_4
  exact (((if_neg c_4).trans (if_pos c_12)).trans (if_pos c_19)).symm
set_option maxHeartbeats 4000000 in
set_option maxRecDepth 100000 in
theorem mX1_isAligned (l : Launch) (dC : Nat → ClassId) (dI : Nat → Nat → Nat) (cI : ClassId) (o oR oa : Nat) (st : Int32) (sib : Int32) (lf : Int32) (ts : Tk) (rs : Rw) : Met l yX1_isAligned (Cond.code yX1_isAligned cX1_isAligned 1 (some .boolean) :: G) ({ frames := 2, cells := 0, slots := 0, locals := 42 } : Room) (va_Pc [.ref o] (fun U => va_P (dC, dI) vwCl [(o, .inr (1, [.ref oR, .int st, .int sib, .int ts.1, .int ts.2.1, .int ts.2.2.1, .int ts.2.2.2])), (oR, .inr (0, [.int lf, .ref oa, .int rs.2])), (oa, .inl (cI, 600, .inl rs.1))] U.heap ∧ va_K (dC, dI) vwCl [(cI, .int)] U ∧ zOk U)) (vp_Si (fun r => r = (FX1_isAligned st sib lf ts rs))) 0 0 (fun _ => False) := by
  refine Met.ofW (cc := cX1_isAligned) (maxL := 1) (ret := (some .boolean)) (by decide) rfl ?_
  intro p e s m args below meth c s₁ B hml hv
  obtain ⟨rfl, hP, hK, hZ⟩ := hv
  have hx := B.exec
  have hb := B.bytes
  have hr := B.returns
  have hts : ∀ w ∈ G, w.before [.ref o].toArray s = true := fun w h => atoms_spec (ws := (Cond.code yX1_isAligned cX1_isAligned 1 (some .boolean) :: G)) B.pre w (List.mem_cons_of_mem _ h)
  have hown : s.vm.findClass RX1 = some m.cls := findClass_of_methodNamed B.named
  have hlocks := B.notSynchronized
  have hl := lv_entry ([.ref o]) (n := 1) (Nat.le_of_ble_eq_true rfl)
  rw [lg_entry_eq]
  generalize (lg_sl ([.ref o]) ++ List.replicate (1 - (lg_sl ([.ref o])).length) Slot.unset).toArray = ls at hl ⊢
  have hl : lv_has ls 1 [(0, .ref o)] := hl
  refine lv_aload_n hx hb dX1_isAligned_0 rfl (lv_at hl 0 rfl) ?_
  have hPc := hP.sub (ws' := [(o, .inr (1, [.ref oR, .int st, .int sib, .int ts.1, .int ts.2.1, .int ts.2.2.1, .int ts.2.2.2])), (oR, .inr (0, [.int lf, .ref oa, .int rs.2])), (oa, .inl (cI, 600, .inl rs.1))]) [0, 1, 2] rfl
  have hKc := hK.sub (tys' := [(cI, .int)]) [0] rfl
  refine vp_callSi (va_Run.run (va_runV (As := []) (rest := []) ⟨hx, hb, hml, hown, hts⟩ (mX1_isAtByte l dC dI cI o oR oa st sib lf ts rs) (cwV 0 hts (gV wd131 wd132 wd133 wd29 wd134) rfl rfl rfl (by decide +kernel) ⟨Nat.le_of_ble_eq_true rfl, Nat.le_of_ble_eq_true rfl⟩) ⟨fb_ro, va_recv hKc hPc (ci := 1) (q0 := 0) rfl rfl, pre_ro hPc hKc hZ⟩ rfl rfl hl.1 rfl (lv_room (Nat.le_of_ble_eq_true rfl)) dX1_isAligned_1 ⟨Nat.le_of_ble_eq_true rfl, Nat.le_of_ble_eq_true rfl⟩)) (fun r_1 hw_2 => ?_)
  refine lv_if_eq (tgt := 26) hx hb dX1_isAligned_4 (by decide) (fun c_4 => ?_) (fun c_4 => ?_)
  · refine lv_iconst (v := 0) hx hb dX1_isAligned_26 (by decide) ?_
    exact W.zret (v := 0) (ty := .boolean) hx hb hr rfl (fun t ht hW => ⟨0, rfl, (plX1_isAligned_0 st sib lf ts rs _ hw_2 c_4), ht⟩) (fun q h => nomatch h) dX1_isAligned_27
  · refine lv_aload_n hx hb dX1_isAligned_7 rfl (lv_at hl 0 rfl) ?_
    refine va_get (D := (dC, dI)) (ci := 1) (v := .int st) (C := RX1) (T := TX1) (N := 7) hx hb hts inGX1 hown hK hP 0 rfl rfl 1 (by decide) (hts _ wd77) (fun _ h9 => h9) rfl dX1_isAligned_8 ?_
    refine lv_iconst (v := 1) hx hb dX1_isAligned_11 (by decide) ?_
    refine lv_icmp_ne (tgt := 22) hx hb dX1_isAligned_12 (by decide) (fun c_12 => ?_) (fun c_12 => ?_)
    · refine lv_iconst (v := 1) hx hb dX1_isAligned_22 (by decide) ?_
      refine lv_goto (tgt := 27) hx hb dX1_isAligned_23 (by decide) ?_
      exact W.zret (v := 1) (ty := .boolean) hx hb hr rfl (fun t ht hW => ⟨1, rfl, (plX1_isAligned_1 st sib lf ts rs _ hw_2 c_4 c_12), ht⟩) (fun q h => nomatch h) dX1_isAligned_27
    · refine lv_aload_n hx hb dX1_isAligned_15 rfl (lv_at hl 0 rfl) ?_
      have hPc := hP.sub (ws' := [(o, .inr (1, [.ref oR, .int st, .int sib, .int ts.1, .int ts.2.1, .int ts.2.2.1, .int ts.2.2.2])), (oR, .inr (0, [.int lf, .ref oa, .int rs.2])), (oa, .inl (cI, 600, .inl rs.1))]) [0, 1, 2] rfl
      have hKc := hK.sub (tys' := [(cI, .int)]) [0] rfl
      refine vp_callSi (va_Run.run (va_runV (As := []) (rest := []) ⟨hx, hb, hml, hown, hts⟩ (mX1_isBehindFullByte l dC dI cI o oR oa st sib lf ts rs) (cwV 0 hts (gV wd135 wd136 wd0 wd29 wd137) rfl rfl rfl (by decide +kernel) ⟨Nat.le_of_ble_eq_true rfl, Nat.le_of_ble_eq_true rfl⟩) ⟨fb_ro, va_recv hKc hPc (ci := 1) (q0 := 0) rfl rfl, pre_ro hPc hKc hZ⟩ rfl rfl hl.1 rfl (lv_room (Nat.le_of_ble_eq_true rfl)) dX1_isAligned_16 ⟨Nat.le_of_ble_eq_true rfl, Nat.le_of_ble_eq_true rfl⟩)) (fun r_3 hw_4 => ?_)
      refine lv_if_ne (tgt := 26) hx hb dX1_isAligned_19 (by decide) (fun c_19 => ?_) (fun c_19 => ?_)
      · refine lv_iconst (v := 0) hx hb dX1_isAligned_26 (by decide) ?_
        exact W.zret (v := 0) (ty := .boolean) hx hb hr rfl (fun t ht hW => ⟨0, rfl, (plX1_isAligned_2 st sib lf ts rs _ hw_2 c_4 c_12 _ hw_4 c_19), ht⟩) (fun q h => nomatch h) dX1_isAligned_27
      · refine lv_iconst (v := 1) hx hb dX1_isAligned_22 (by decide) ?_
        refine lv_goto (tgt := 27) hx hb dX1_isAligned_23 (by decide) ?_
        exact W.zret (v := 1) (ty := .boolean) hx hb hr rfl (fun t ht hW => ⟨1, rfl, (plX1_isAligned_3 st sib lf ts rs _ hw_2 c_4 c_12 _ hw_4 c_19), ht⟩) (fun q h => nomatch h) dX1_isAligned_27
def FX1_isStuffedDue (st : Int32) (sib : Int32) (lf : Int32) (ts : Tk) (rs : Rw) : Int32 :=
  if st ≤ 1 then
    if st = 1 then
      if (ts.1 &&& 7) = sib then
        let r_1 := FX1_isBehindFullByte st sib lf ts rs
        if r_1 = 0 then
          0
        else
          1
      else
        0
    else
      0
  else
    if ts.2.2.1 = st then
      1
    else
      0
set_option maxRecDepth 100000 in
theorem plX1_isStuffedDue_0 (st : Int32) (sib : Int32) (lf : Int32) (ts : Tk) (rs : Rw) (c_5 : st ≤ 1) (c_30 : ¬ (st = 1)) : 0 = FX1_isStuffedDue st sib lf ts rs := by
  exact ((if_pos c_5).trans (if_neg c_30)).symm
set_option maxRecDepth 100000 in
theorem plX1_isStuffedDue_1 (st : Int32) (sib : Int32) (lf : Int32) (ts : Tk) (rs : Rw) (c_5 : st ≤ 1) (c_30 : st = 1) (c_44 : ¬ ((ts.1 &&& 7) = sib)) : 0 = FX1_isStuffedDue st sib lf ts rs := by
  exact (((if_pos c_5).trans (if_pos c_30)).trans (if_neg c_44)).symm
set_option maxRecDepth 100000 in
theorem plX1_isStuffedDue_2 (st : Int32) (sib : Int32) (lf : Int32) (ts : Tk) (rs : Rw) (c_5 : st ≤ 1) (c_30 : st = 1) (c_44 : (ts.1 &&& 7) = sib) (r_1 : Int32) (hw_2 : r_1 = FX1_isBehindFullByte st sib lf ts rs) (c_51 : r_1 = 0) : 0 = FX1_isStuffedDue st sib lf ts rs := by
  subst hw_2
  exact ((((if_pos c_5).trans (if_pos c_30)).trans (if_pos c_44)).trans (if_pos c_51)).symm
set_option maxRecDepth 100000 in
theorem plX1_isStuffedDue_3 (st : Int32) (sib : Int32) (lf : Int32) (ts : Tk) (rs : Rw) (c_5 : st ≤ 1) (c_30 : st = 1) (c_44 : (ts.1 &&& 7) = sib) (r_1 : Int32) (hw_2 : r_1 = FX1_isBehindFullByte st sib lf ts rs) (c_51 : ¬ (r_1 = 0)) : 1 = FX1_isStuffedDue st sib lf ts rs := by
  subst hw_2
  exact ((((if_pos c_5).trans (if_pos c_30)).trans (if_pos c_44)).trans (if_neg c_51)).symm
set_option maxRecDepth 100000 in
theorem plX1_isStuffedDue_4 (st : Int32) (sib : Int32) (lf : Int32) (ts : Tk) (rs : Rw) (c_5 : ¬ (st ≤ 1)) (c_16 : ¬ (ts.2.2.1 = st)) : 0 = FX1_isStuffedDue st sib lf ts rs := by
  exact ((if_neg c_5).trans (if_neg c_16)).symm
set_option maxRecDepth 100000 in
theorem plX1_isStuffedDue_5 (st : Int32) (sib : Int32) (lf : Int32) (ts : Tk) (rs : Rw) (c_5 : ¬ (st ≤ 1)) (c_16 : ts.2.2.1 = st) : 1 = FX1_isStuffedDue st sib lf ts rs := by
  exact ((if_neg c_5).trans (if_pos c_16)).symm
set_option maxHeartbeats 4000000 in
set_option maxRecDepth 100000 in
theorem mX1_isStuffedDue (l : Launch) (dC : Nat → ClassId) (dI : Nat → Nat → Nat) (cI : ClassId) (o oR oa : Nat) (st : Int32) (sib : Int32) (lf : Int32) (ts : Tk) (rs : Rw) : Met l yX1_isStuffedDue (Cond.code yX1_isStuffedDue cX1_isStuffedDue 1 (some .boolean) :: G) ({ frames := 2, cells := 0, slots := 0, locals := 42 } : Room) (va_Pc [.ref o] (fun U => va_P (dC, dI) vwCl [(o, .inr (1, [.ref oR, .int st, .int sib, .int ts.1, .int ts.2.1, .int ts.2.2.1, .int ts.2.2.2])), (oR, .inr (0, [.int lf, .ref oa, .int rs.2])), (oa, .inl (cI, 600, .inl rs.1))] U.heap ∧ va_K (dC, dI) vwCl [(cI, .int)] U ∧ zOk U)) (vp_Si (fun r => r = (FX1_isStuffedDue st sib lf ts rs))) 0 0 (fun _ => False) := by
  refine Met.ofW (cc := cX1_isStuffedDue) (maxL := 1) (ret := (some .boolean)) (by decide) rfl ?_
  intro p e s m args below meth c s₁ B hml hv
  obtain ⟨rfl, hP, hK, hZ⟩ := hv
  have hx := B.exec
  have hb := B.bytes
  have hr := B.returns
  have hts : ∀ w ∈ G, w.before [.ref o].toArray s = true := fun w h => atoms_spec (ws := (Cond.code yX1_isStuffedDue cX1_isStuffedDue 1 (some .boolean) :: G)) B.pre w (List.mem_cons_of_mem _ h)
  have hown : s.vm.findClass RX1 = some m.cls := findClass_of_methodNamed B.named
  have hlocks := B.notSynchronized
  have hl := lv_entry ([.ref o]) (n := 1) (Nat.le_of_ble_eq_true rfl)
  rw [lg_entry_eq]
  generalize (lg_sl ([.ref o]) ++ List.replicate (1 - (lg_sl ([.ref o])).length) Slot.unset).toArray = ls at hl ⊢
  have hl : lv_has ls 1 [(0, .ref o)] := hl
  refine lv_aload_n hx hb dX1_isStuffedDue_0 rfl (lv_at hl 0 rfl) ?_
  refine va_get (D := (dC, dI)) (ci := 1) (v := .int st) (C := RX1) (T := TX1) (N := 7) hx hb hts inGX1 hown hK hP 0 rfl rfl 1 (by decide) (hts _ wd77) (fun _ h9 => h9) rfl dX1_isStuffedDue_1 ?_
  refine lv_iconst (v := 1) hx hb dX1_isStuffedDue_4 (by decide) ?_
  refine lv_icmp_le (tgt := 25) hx hb dX1_isStuffedDue_5 (by decide) (fun c_5 => ?_) (fun c_5 => ?_)
  · refine lv_aload_n hx hb dX1_isStuffedDue_25 rfl (lv_at hl 0 rfl) ?_
    refine va_get (D := (dC, dI)) (ci := 1) (v := .int st) (C := RX1) (T := TX1) (N := 7) hx hb hts inGX1 hown hK hP 0 rfl rfl 1 (by decide) (hts _ wd77) (fun _ h9 => h9) rfl dX1_isStuffedDue_26 ?_
    refine lv_iconst (v := 1) hx hb dX1_isStuffedDue_29 (by decide) ?_
    refine lv_icmp_ne (tgt := 58) hx hb dX1_isStuffedDue_30 (by decide) (fun c_30 => ?_) (fun c_30 => ?_)
    · refine lv_iconst (v := 0) hx hb dX1_isStuffedDue_58 (by decide) ?_
      exact W.zret (v := 0) (ty := .boolean) hx hb hr rfl (fun t ht hW => ⟨0, rfl, (plX1_isStuffedDue_0 st sib lf ts rs c_5 c_30), ht⟩) (fun q h => nomatch h) dX1_isStuffedDue_59
    · refine lv_aload_n hx hb dX1_isStuffedDue_33 rfl (lv_at hl 0 rfl) ?_
      refine va_get (D := (dC, dI)) (ci := 1) (v := .int ts.1) (C := RX1) (T := TX1) (N := 7) hx hb hts inGX1 hown hK hP 0 rfl rfl 3 (by decide) (hts _ wd79) (fun _ h9 => h9) rfl dX1_isStuffedDue_34 ?_
      refine lv_bipush (v := 7) hx hb dX1_isStuffedDue_37 (by decide) ?_
      refine lv_iand hx hb dX1_isStuffedDue_39 ?_
      refine lv_aload_n hx hb dX1_isStuffedDue_40 rfl (lv_at hl 0 rfl) ?_
      refine va_get (D := (dC, dI)) (ci := 1) (v := .int sib) (C := RX1) (T := TX1) (N := 7) hx hb hts inGX1 hown hK hP 0 rfl rfl 2 (by decide) (hts _ wd78) (fun _ h9 => h9) rfl dX1_isStuffedDue_41 ?_
      refine lv_icmp_ne (tgt := 58) hx hb dX1_isStuffedDue_44 (by decide) (fun c_44 => ?_) (fun c_44 => ?_)
      · refine lv_iconst (v := 0) hx hb dX1_isStuffedDue_58 (by decide) ?_
        exact W.zret (v := 0) (ty := .boolean) hx hb hr rfl (fun t ht hW => ⟨0, rfl, (plX1_isStuffedDue_1 st sib lf ts rs c_5 c_30 c_44), ht⟩) (fun q h => nomatch h) dX1_isStuffedDue_59
      · refine lv_aload_n hx hb dX1_isStuffedDue_47 rfl (lv_at hl 0 rfl) ?_
        have hPc := hP.sub (ws' := [(o, .inr (1, [.ref oR, .int st, .int sib, .int ts.1, .int ts.2.1, .int ts.2.2.1, .int ts.2.2.2])), (oR, .inr (0, [.int lf, .ref oa, .int rs.2])), (oa, .inl (cI, 600, .inl rs.1))]) [0, 1, 2] rfl
        have hKc := hK.sub (tys' := [(cI, .int)]) [0] rfl
        refine vp_callSi (va_Run.run (va_runV (As := []) (rest := []) ⟨hx, hb, hml, hown, hts⟩ (mX1_isBehindFullByte l dC dI cI o oR oa st sib lf ts rs) (cwV 0 hts (gV wd135 wd136 wd0 wd29 wd137) rfl rfl rfl (by decide +kernel) ⟨Nat.le_of_ble_eq_true rfl, Nat.le_of_ble_eq_true rfl⟩) ⟨fb_ro, va_recv hKc hPc (ci := 1) (q0 := 0) rfl rfl, pre_ro hPc hKc hZ⟩ rfl rfl hl.1 rfl (lv_room (Nat.le_of_ble_eq_true rfl)) dX1_isStuffedDue_48 ⟨Nat.le_of_ble_eq_true rfl, Nat.le_of_ble_eq_true rfl⟩)) (fun r_1 hw_2 => ?_)
        refine lv_if_eq (tgt := 58) hx hb dX1_isStuffedDue_51 (by decide) (fun c_51 => ?_) (fun c_51 => ?_)
        · refine lv_iconst (v := 0) hx hb dX1_isStuffedDue_58 (by decide) ?_
          exact W.zret (v := 0) (ty := .boolean) hx hb hr rfl (fun t ht hW => ⟨0, rfl, (plX1_isStuffedDue_2 st sib lf ts rs c_5 c_30 c_44 _ hw_2 c_51), ht⟩) (fun q h => nomatch h) dX1_isStuffedDue_59
        · refine lv_iconst (v := 1) hx hb dX1_isStuffedDue_54 (by decide) ?_
          refine lv_goto (tgt := 59) hx hb dX1_isStuffedDue_55 (by decide) ?_
          exact W.zret (v := 1) (ty := .boolean) hx hb hr rfl (fun t ht hW => ⟨1, rfl, (plX1_isStuffedDue_3 st sib lf ts rs c_5 c_30 c_44 _ hw_2 c_51), ht⟩) (fun q h => nomatch h) dX1_isStuffedDue_59
  · refine lv_aload_n hx hb dX1_isStuffedDue_8 rfl (lv_at hl 0 rfl) ?_
    refine va_get (D := (dC, dI)) (ci := 1) (v := .int ts.2.2.1) (C := RX1) (T := TX1) (N := 7) hx hb hts inGX1 hown hK hP 0 rfl rfl 5 (by decide) (hts _ wd81) (fun _ h9 => h9) rfl dX1_isStuffedDue_9 ?_
    refine lv_aload_n hx hb dX1_isStuffedDue_12 rfl (lv_at hl 0 rfl) ?_
    refine va_get (D := (dC, dI)) (ci := 1) (v := .int st) (C := RX1) (T := TX1) (N := 7) hx hb hts inGX1 hown hK hP 0 rfl rfl 1 (by decide) (hts _ wd77) (fun _ h9 => h9) rfl dX1_isStuffedDue_13 ?_
    refine lv_icmp_ne (tgt := 23) hx hb dX1_isStuffedDue_16 (by decide) (fun c_16 => ?_) (fun c_16 => ?_)
    · refine lv_iconst (v := 0) hx hb dX1_isStuffedDue_23 (by decide) ?_
      exact W.zret (v := 0) (ty := .boolean) hx hb hr rfl (fun t ht hW => ⟨0, rfl, (plX1_isStuffedDue_4 st sib lf ts rs c_5 c_16), ht⟩) (fun q h => nomatch h) dX1_isStuffedDue_24
    · refine lv_iconst (v := 1) hx hb dX1_isStuffedDue_19 (by decide) ?_
      refine lv_goto (tgt := 24) hx hb dX1_isStuffedDue_20 (by decide) ?_
      exact W.zret (v := 1) (ty := .boolean) hx hb hr rfl (fun t ht hW => ⟨1, rfl, (plX1_isStuffedDue_5 st sib lf ts rs c_5 c_16), ht⟩) (fun q h => nomatch h) dX1_isStuffedDue_24
def FX1_stepOver (st : Int32) (sib : Int32) (lf : Int32) (ts : Tk) (rs : Rw) (p0 : Int32) : Tk :=
  let f_1 := ts.1 + 1
  if p0 = 1 then
    let f_2 := ts.2.2.1 + 1
    (f_1, ts.2.1, f_2, ts.2.2.2)
  else
    (f_1, ts.2.1, 0, ts.2.2.2)
set_option maxRecDepth 100000 in
theorem plX1_stepOver_0 (st : Int32) (sib : Int32) (lf : Int32) (ts : Tk) (rs : Rw) (p0 : Int32) (f_1 : Int32) (ef_1 : f_1 = ts.1 + 1) (c_13 : ¬ (p0 = 1)) : (f_1, ts.2.1, 0, ts.2.2.2) = FX1_stepOver st sib lf ts rs p0 := by
  subst ef_1
  exact (if_neg c_13).symm
set_option maxRecDepth 100000 in
theorem plX1_stepOver_1 (st : Int32) (sib : Int32) (lf : Int32) (ts : Tk) (rs : Rw) (p0 : Int32) (f_1 : Int32) (ef_1 : f_1 = ts.1 + 1) (c_13 : p0 = 1) (f_2 : Int32) (ef_2 : f_2 = ts.2.2.1 + 1) : (f_1, ts.2.1, f_2, ts.2.2.2) = FX1_stepOver st sib lf ts rs p0 := by
  subst ef_1
  subst ef_2
  exact (if_pos c_13).symm
set_option maxHeartbeats 4000000 in
set_option maxRecDepth 100000 in
theorem mX1_stepOver (l : Launch) (dC : Nat → ClassId) (dI : Nat → Nat → Nat) (cI : ClassId) (o oR oa : Nat) (sz : Nat) (st : Int32) (sib : Int32) (lf : Int32) (ts : Tk) (rs : Rw) (p0 : Int32) : Met l yX1_stepOver (Cond.code yX1_stepOver cX1_stepOver 2 none :: G) ({ frames := 0, cells := 0, slots := 0, locals := 0 } : Room) (va_Pc [.ref o, .int p0] (fun U => U.heap.size = sz ∧ va_P (dC, dI) vwCl [(o, .inr (1, [.ref oR, .int st, .int sib, .int ts.1, .int ts.2.1, .int ts.2.2.1, .int ts.2.2.2])), (oR, .inr (0, [.int lf, .ref oa, .int rs.2])), (oa, .inl (cI, 600, .inl rs.1))] U.heap ∧ va_K (dC, dI) vwCl [(cI, .int)] U ∧ va_D (fun _ => True) [(o, .inr (1, [.ref oR, .int st, .int sib, .int ts.1, .int ts.2.1, .int ts.2.2.1, .int ts.2.2.2])), (oR, .inr (0, [.int lf, .ref oa, .int rs.2])), (oa, .inl (cI, 600, .inl rs.1))] ∧ zOk U)) (va_Qv (fun (u : Tk) => u = (FX1_stepOver st sib lf ts rs p0)) (fun (u : Tk) (t : State) => va_P (dC, dI) vwCl [(o, .inr (1, [.ref oR, .int st, .int sib, .int u.1, .int u.2.1, .int u.2.2.1, .int u.2.2.2])), (oR, .inr (0, [.int lf, .ref oa, .int rs.2])), (oa, .inl (cI, 600, .inl rs.1))] t.heap ∧ va_D (va_A [(o, .inr (1, [.ref oR, .int st, .int sib, .int ts.1, .int ts.2.1, .int ts.2.2.1, .int ts.2.2.2])), (oR, .inr (0, [.int lf, .ref oa, .int rs.2])), (oa, .inl (cI, 600, .inl rs.1))] sz) [(o, .inr (1, [.ref oR, .int st, .int sib, .int u.1, .int u.2.1, .int u.2.2.1, .int u.2.2.2])), (oR, .inr (0, [.int lf, .ref oa, .int rs.2])), (oa, .inl (cI, 600, .inl rs.1))]) (va_A [(o, .inr (1, [.ref oR, .int st, .int sib, .int ts.1, .int ts.2.1, .int ts.2.2.1, .int ts.2.2.2])), (oR, .inr (0, [.int lf, .ref oa, .int rs.2])), (oa, .inl (cI, 600, .inl rs.1))] sz)) 0 0 (va_A [(o, .inr (1, [.ref oR, .int st, .int sib, .int ts.1, .int ts.2.1, .int ts.2.2.1, .int ts.2.2.2])), (oR, .inr (0, [.int lf, .ref oa, .int rs.2])), (oa, .inl (cI, 600, .inl rs.1))] sz) := by
  refine Met.ofW (cc := cX1_stepOver) (maxL := 2) (ret := none) (by decide) rfl ?_
  intro p e s m args below meth c s₁ B hml hv
  obtain ⟨rfl, hsz, hP, hK, hD0, hZ⟩ := hv
  have hx := B.exec
  have hb := B.bytes
  have hr := B.returns
  have hts : ∀ w ∈ G, w.before [.ref o, .int p0].toArray s = true := fun w h => atoms_spec (ws := (Cond.code yX1_stepOver cX1_stepOver 2 none :: G)) B.pre w (List.mem_cons_of_mem _ h)
  have hown : s.vm.findClass RX1 = some m.cls := findClass_of_methodNamed B.named
  have hlocks := B.notSynchronized
  subst hsz
  have hD := hD0.self (sz := s.heap.size)
  generalize hAe : va_A [(o, .inr (1, [.ref oR, .int st, .int sib, .int ts.1, .int ts.2.1, .int ts.2.2.1, .int ts.2.2.2])), (oR, .inr (0, [.int lf, .ref oa, .int rs.2])), (oa, .inl (cI, 600, .inl rs.1))] s.heap.size = A at hD ⊢
  have hA : ∀ q : Nat, s.heap.size ≤ q → A q := fun q h => by rw [← hAe]; exact Or.inr h
  have hS : va_S A s.heap s.heap [] := va_S.rf
  have hP : va_P (dC, dI) vwCl [(o, .inr (1, [.ref oR, .int st, .int sib, .int ts.1, .int ts.2.1, .int ts.2.2.1, .int ts.2.2.2])), (oR, .inr (0, [.int lf, .ref oa, .int rs.2])), (oa, .inl (cI, 600, .inl rs.1))] s.heap := hP
  have hl := lv_entry ([.ref o, .int p0]) (n := 2) (Nat.le_of_ble_eq_true rfl)
  rw [lg_entry_eq]
  generalize (lg_sl ([.ref o, .int p0]) ++ List.replicate (2 - (lg_sl ([.ref o, .int p0])).length) Slot.unset).toArray = ls at hl ⊢
  have hl : lv_has ls 2 [(0, .ref o), (1, .int p0)] := hl
  refine lv_aload_n hx hb dX1_stepOver_0 rfl (lv_at hl 0 rfl) ?_
  refine lv_dup hx hb dX1_stepOver_1 rfl ?_
  refine va_get (D := (dC, dI)) (ci := 1) (v := .int ts.1) (C := RX1) (T := TX1) (N := 7) hx hb hts inGX1 hown hK hP 0 rfl rfl 3 (by decide) (hts _ wd79) (fun _ h9 => h9) rfl dX1_stepOver_2 ?_
  refine lv_iconst (v := 1) hx hb dX1_stepOver_5 (by decide) ?_
  refine lv_iadd hx hb dX1_stepOver_6 ?_
  refine lv_topi (fun f_1 ef_1 => ?_)
  refine va_put (D := (dC, dI)) (ci := 1) (v := .int f_1) (ty := .int) (C := RX1) (T := TX1) (N := 7) hx hb hts inGX1 tyX1 tyX1_ok nmX1 hown hK hP hD hS 0 rfl rfl 3 (by decide) (hts _ wd79) (fun _ h9 => h9) rfl (by decide +kernel) rfl rfl (Nat.le_of_ble_eq_true rfl) dX1_stepOver_7 (fun H locs hP hD hS => ?_)
  have hP : va_P (dC, dI) vwCl [(o, .inr (1, [.ref oR, .int st, .int sib, .int f_1, .int ts.2.1, .int ts.2.2.1, .int ts.2.2.2])), (oR, .inr (0, [.int lf, .ref oa, .int rs.2])), (oa, .inl (cI, 600, .inl rs.1))] H := hP
  have hD : va_D A [(o, .inr (1, [.ref oR, .int st, .int sib, .int f_1, .int ts.2.1, .int ts.2.2.1, .int ts.2.2.2])), (oR, .inr (0, [.int lf, .ref oa, .int rs.2])), (oa, .inl (cI, 600, .inl rs.1))] := hD
  refine lv_aload_n hx hb dX1_stepOver_10 rfl (lv_at hl 0 rfl) ?_
  refine lv_iload_n hx hb dX1_stepOver_11 rfl (lv_at hl 1 rfl) ?_
  refine lv_iconst (v := 1) hx hb dX1_stepOver_12 (by decide) ?_
  refine lv_icmp_ne (tgt := 25) hx hb dX1_stepOver_13 (by decide) (fun c_13 => ?_) (fun c_13 => ?_)
  · refine lv_iconst (v := 0) hx hb dX1_stepOver_25 (by decide) ?_
    refine va_put (D := (dC, dI)) (ci := 1) (v := .int 0) (ty := .int) (C := RX1) (T := TX1) (N := 7) hx hb hts inGX1 tyX1 tyX1_ok nmX1 hown hK hP hD hS 0 rfl rfl 5 (by decide) (hts _ wd81) (fun _ h9 => h9) rfl (by decide +kernel) rfl rfl (Nat.le_of_ble_eq_true rfl) dX1_stepOver_26 (fun H locs hP hD hS => ?_)
    have hP : va_P (dC, dI) vwCl [(o, .inr (1, [.ref oR, .int st, .int sib, .int f_1, .int ts.2.1, .int 0, .int ts.2.2.2])), (oR, .inr (0, [.int lf, .ref oa, .int rs.2])), (oa, .inl (cI, 600, .inl rs.1))] H := hP
    have hD : va_D A [(o, .inr (1, [.ref oR, .int st, .int sib, .int f_1, .int ts.2.1, .int 0, .int ts.2.2.2])), (oR, .inr (0, [.int lf, .ref oa, .int rs.2])), (oa, .inl (cI, 600, .inl rs.1))] := hD
    have hP9 := hP.sub (ws' := [(o, .inr (1, [.ref oR, .int st, .int sib, .int f_1, .int ts.2.1, .int 0, .int ts.2.2.2])), (oR, .inr (0, [.int lf, .ref oa, .int rs.2])), (oa, .inl (cI, 600, .inl rs.1))]) [0, 1, 2] rfl
    have hD9 := hD.sub (ws' := [(o, .inr (1, [.ref oR, .int st, .int sib, .int f_1, .int ts.2.1, .int 0, .int ts.2.2.2])), (oR, .inr (0, [.int lf, .ref oa, .int rs.2])), (oa, .inl (cI, 600, .inl rs.1))]) [0, 1, 2] (by decide) rfl
    exact W.vret hx hb hr (fun t ht hW => ⟨⟨(f_1, ts.2.1, 0, ts.2.2.2), rfl, (plX1_stepOver_0 st sib lf ts rs p0 _ ef_1 c_13), by rw [ht]; exact hP9, hD9⟩, hS.F ht⟩) hS.2.2 dX1_stepOver_29
  · refine lv_aload_n hx hb dX1_stepOver_16 rfl (lv_at hl 0 rfl) ?_
    refine va_get (D := (dC, dI)) (ci := 1) (v := .int ts.2.2.1) (C := RX1) (T := TX1) (N := 7) hx hb hts inGX1 hown hK hP 0 rfl rfl 5 (by decide) (hts _ wd81) (fun _ h9 => h9) rfl dX1_stepOver_17 ?_
    refine lv_iconst (v := 1) hx hb dX1_stepOver_20 (by decide) ?_
    refine lv_iadd hx hb dX1_stepOver_21 ?_
    refine lv_goto (tgt := 26) hx hb dX1_stepOver_22 (by decide) ?_
    refine lv_topi (fun f_2 ef_2 => ?_)
    refine va_put (D := (dC, dI)) (ci := 1) (v := .int f_2) (ty := .int) (C := RX1) (T := TX1) (N := 7) hx hb hts inGX1 tyX1 tyX1_ok nmX1 hown hK hP hD hS 0 rfl rfl 5 (by decide) (hts _ wd81) (fun _ h9 => h9) rfl (by decide +kernel) rfl rfl (Nat.le_of_ble_eq_true rfl) dX1_stepOver_26 (fun H locs hP hD hS => ?_)
    have hP : va_P (dC, dI) vwCl [(o, .inr (1, [.ref oR, .int st, .int sib, .int f_1, .int ts.2.1, .int f_2, .int ts.2.2.2])), (oR, .inr (0, [.int lf, .ref oa, .int rs.2])), (oa, .inl (cI, 600, .inl rs.1))] H := hP
    have hD : va_D A [(o, .inr (1, [.ref oR, .int st, .int sib, .int f_1, .int ts.2.1, .int f_2, .int ts.2.2.2])), (oR, .inr (0, [.int lf, .ref oa, .int rs.2])), (oa, .inl (cI, 600, .inl rs.1))] := hD
    have hP9 := hP.sub (ws' := [(o, .inr (1, [.ref oR, .int st, .int sib, .int f_1, .int ts.2.1, .int f_2, .int ts.2.2.2])), (oR, .inr (0, [.int lf, .ref oa, .int rs.2])), (oa, .inl (cI, 600, .inl rs.1))]) [0, 1, 2] rfl
    have hD9 := hD.sub (ws' := [(o, .inr (1, [.ref oR, .int st, .int sib, .int f_1, .int ts.2.1, .int f_2, .int ts.2.2.2])), (oR, .inr (0, [.int lf, .ref oa, .int rs.2])), (oa, .inl (cI, 600, .inl rs.1))]) [0, 1, 2] (by decide) rfl
    exact W.vret hx hb hr (fun t ht hW => ⟨⟨(f_1, ts.2.1, f_2, ts.2.2.2), rfl, (plX1_stepOver_1 st sib lf ts rs p0 _ ef_1 c_13 _ ef_2), by rw [ht]; exact hP9, hD9⟩, hS.F ht⟩) hS.2.2 dX1_stepOver_29
def FX1_stepOverStuffed (st : Int32) (sib : Int32) (lf : Int32) (ts : Tk) (rs : Rw) : Tk :=
  let f_1 := ts.1 + 1
  let f_2 := ts.2.1 + 1
  (f_1, f_2, 0, ts.2.2.2)
set_option maxRecDepth 100000 in
theorem plX1_stepOverStuffed_0 (st : Int32) (sib : Int32) (lf : Int32) (ts : Tk) (rs : Rw) (f_1 : Int32) (ef_1 : f_1 = ts.1 + 1) (f_2 : Int32) (ef_2 : f_2 = ts.2.1 + 1) : (f_1, f_2, 0, ts.2.2.2) = FX1_stepOverStuffed st sib lf ts rs := by
  subst ef_1
  subst ef_2
  exact rfl
set_option maxHeartbeats 4000000 in
set_option maxRecDepth 100000 in
theorem mX1_stepOverStuffed (l : Launch) (dC : Nat → ClassId) (dI : Nat → Nat → Nat) (cI : ClassId) (o oR oa : Nat) (sz : Nat) (st : Int32) (sib : Int32) (lf : Int32) (ts : Tk) (rs : Rw) : Met l yX1_stepOverStuffed (Cond.code yX1_stepOverStuffed cX1_stepOverStuffed 1 none :: G) ({ frames := 0, cells := 0, slots := 0, locals := 0 } : Room) (va_Pc [.ref o] (fun U => U.heap.size = sz ∧ va_P (dC, dI) vwCl [(o, .inr (1, [.ref oR, .int st, .int sib, .int ts.1, .int ts.2.1, .int ts.2.2.1, .int ts.2.2.2])), (oR, .inr (0, [.int lf, .ref oa, .int rs.2])), (oa, .inl (cI, 600, .inl rs.1))] U.heap ∧ va_K (dC, dI) vwCl [(cI, .int)] U ∧ va_D (fun _ => True) [(o, .inr (1, [.ref oR, .int st, .int sib, .int ts.1, .int ts.2.1, .int ts.2.2.1, .int ts.2.2.2])), (oR, .inr (0, [.int lf, .ref oa, .int rs.2])), (oa, .inl (cI, 600, .inl rs.1))] ∧ zOk U)) (va_Qv (fun (u : Tk) => u = (FX1_stepOverStuffed st sib lf ts rs)) (fun (u : Tk) (t : State) => va_P (dC, dI) vwCl [(o, .inr (1, [.ref oR, .int st, .int sib, .int u.1, .int u.2.1, .int u.2.2.1, .int u.2.2.2])), (oR, .inr (0, [.int lf, .ref oa, .int rs.2])), (oa, .inl (cI, 600, .inl rs.1))] t.heap ∧ va_D (va_A [(o, .inr (1, [.ref oR, .int st, .int sib, .int ts.1, .int ts.2.1, .int ts.2.2.1, .int ts.2.2.2])), (oR, .inr (0, [.int lf, .ref oa, .int rs.2])), (oa, .inl (cI, 600, .inl rs.1))] sz) [(o, .inr (1, [.ref oR, .int st, .int sib, .int u.1, .int u.2.1, .int u.2.2.1, .int u.2.2.2])), (oR, .inr (0, [.int lf, .ref oa, .int rs.2])), (oa, .inl (cI, 600, .inl rs.1))]) (va_A [(o, .inr (1, [.ref oR, .int st, .int sib, .int ts.1, .int ts.2.1, .int ts.2.2.1, .int ts.2.2.2])), (oR, .inr (0, [.int lf, .ref oa, .int rs.2])), (oa, .inl (cI, 600, .inl rs.1))] sz)) 0 0 (va_A [(o, .inr (1, [.ref oR, .int st, .int sib, .int ts.1, .int ts.2.1, .int ts.2.2.1, .int ts.2.2.2])), (oR, .inr (0, [.int lf, .ref oa, .int rs.2])), (oa, .inl (cI, 600, .inl rs.1))] sz) := by
  refine Met.ofW (cc := cX1_stepOverStuffed) (maxL := 1) (ret := none) (by decide) rfl ?_
  intro p e s m args below meth c s₁ B hml hv
  obtain ⟨rfl, hsz, hP, hK, hD0, hZ⟩ := hv
  have hx := B.exec
  have hb := B.bytes
  have hr := B.returns
  have hts : ∀ w ∈ G, w.before [.ref o].toArray s = true := fun w h => atoms_spec (ws := (Cond.code yX1_stepOverStuffed cX1_stepOverStuffed 1 none :: G)) B.pre w (List.mem_cons_of_mem _ h)
  have hown : s.vm.findClass RX1 = some m.cls := findClass_of_methodNamed B.named
  have hlocks := B.notSynchronized
  subst hsz
  have hD := hD0.self (sz := s.heap.size)
  generalize hAe : va_A [(o, .inr (1, [.ref oR, .int st, .int sib, .int ts.1, .int ts.2.1, .int ts.2.2.1, .int ts.2.2.2])), (oR, .inr (0, [.int lf, .ref oa, .int rs.2])), (oa, .inl (cI, 600, .inl rs.1))] s.heap.size = A at hD ⊢
  have hA : ∀ q : Nat, s.heap.size ≤ q → A q := fun q h => by rw [← hAe]; exact Or.inr h
  have hS : va_S A s.heap s.heap [] := va_S.rf
  have hP : va_P (dC, dI) vwCl [(o, .inr (1, [.ref oR, .int st, .int sib, .int ts.1, .int ts.2.1, .int ts.2.2.1, .int ts.2.2.2])), (oR, .inr (0, [.int lf, .ref oa, .int rs.2])), (oa, .inl (cI, 600, .inl rs.1))] s.heap := hP
  have hl := lv_entry ([.ref o]) (n := 1) (Nat.le_of_ble_eq_true rfl)
  rw [lg_entry_eq]
  generalize (lg_sl ([.ref o]) ++ List.replicate (1 - (lg_sl ([.ref o])).length) Slot.unset).toArray = ls at hl ⊢
  have hl : lv_has ls 1 [(0, .ref o)] := hl
  refine lv_aload_n hx hb dX1_stepOverStuffed_0 rfl (lv_at hl 0 rfl) ?_
  refine lv_dup hx hb dX1_stepOverStuffed_1 rfl ?_
  refine va_get (D := (dC, dI)) (ci := 1) (v := .int ts.1) (C := RX1) (T := TX1) (N := 7) hx hb hts inGX1 hown hK hP 0 rfl rfl 3 (by decide) (hts _ wd79) (fun _ h9 => h9) rfl dX1_stepOverStuffed_2 ?_
  refine lv_iconst (v := 1) hx hb dX1_stepOverStuffed_5 (by decide) ?_
  refine lv_iadd hx hb dX1_stepOverStuffed_6 ?_
  refine lv_topi (fun f_1 ef_1 => ?_)
  refine va_put (D := (dC, dI)) (ci := 1) (v := .int f_1) (ty := .int) (C := RX1) (T := TX1) (N := 7) hx hb hts inGX1 tyX1 tyX1_ok nmX1 hown hK hP hD hS 0 rfl rfl 3 (by decide) (hts _ wd79) (fun _ h9 => h9) rfl (by decide +kernel) rfl rfl (Nat.le_of_ble_eq_true rfl) dX1_stepOverStuffed_7 (fun H locs hP hD hS => ?_)
  have hP : va_P (dC, dI) vwCl [(o, .inr (1, [.ref oR, .int st, .int sib, .int f_1, .int ts.2.1, .int ts.2.2.1, .int ts.2.2.2])), (oR, .inr (0, [.int lf, .ref oa, .int rs.2])), (oa, .inl (cI, 600, .inl rs.1))] H := hP
  have hD : va_D A [(o, .inr (1, [.ref oR, .int st, .int sib, .int f_1, .int ts.2.1, .int ts.2.2.1, .int ts.2.2.2])), (oR, .inr (0, [.int lf, .ref oa, .int rs.2])), (oa, .inl (cI, 600, .inl rs.1))] := hD
  refine lv_aload_n hx hb dX1_stepOverStuffed_10 rfl (lv_at hl 0 rfl) ?_
  refine lv_dup hx hb dX1_stepOverStuffed_11 rfl ?_
  refine va_get (D := (dC, dI)) (ci := 1) (v := .int ts.2.1) (C := RX1) (T := TX1) (N := 7) hx hb hts inGX1 hown hK hP 0 rfl rfl 4 (by decide) (hts _ wd80) (fun _ h9 => h9) rfl dX1_stepOverStuffed_12 ?_
  refine lv_iconst (v := 1) hx hb dX1_stepOverStuffed_15 (by decide) ?_
  refine lv_iadd hx hb dX1_stepOverStuffed_16 ?_
  refine lv_topi (fun f_2 ef_2 => ?_)
  refine va_put (D := (dC, dI)) (ci := 1) (v := .int f_2) (ty := .int) (C := RX1) (T := TX1) (N := 7) hx hb hts inGX1 tyX1 tyX1_ok nmX1 hown hK hP hD hS 0 rfl rfl 4 (by decide) (hts _ wd80) (fun _ h9 => h9) rfl (by decide +kernel) rfl rfl (Nat.le_of_ble_eq_true rfl) dX1_stepOverStuffed_17 (fun H locs hP hD hS => ?_)
  have hP : va_P (dC, dI) vwCl [(o, .inr (1, [.ref oR, .int st, .int sib, .int f_1, .int f_2, .int ts.2.2.1, .int ts.2.2.2])), (oR, .inr (0, [.int lf, .ref oa, .int rs.2])), (oa, .inl (cI, 600, .inl rs.1))] H := hP
  have hD : va_D A [(o, .inr (1, [.ref oR, .int st, .int sib, .int f_1, .int f_2, .int ts.2.2.1, .int ts.2.2.2])), (oR, .inr (0, [.int lf, .ref oa, .int rs.2])), (oa, .inl (cI, 600, .inl rs.1))] := hD
  refine lv_aload_n hx hb dX1_stepOverStuffed_20 rfl (lv_at hl 0 rfl) ?_
  refine lv_iconst (v := 0) hx hb dX1_stepOverStuffed_21 (by decide) ?_
  refine va_put (D := (dC, dI)) (ci := 1) (v := .int 0) (ty := .int) (C := RX1) (T := TX1) (N := 7) hx hb hts inGX1 tyX1 tyX1_ok nmX1 hown hK hP hD hS 0 rfl rfl 5 (by decide) (hts _ wd81) (fun _ h9 => h9) rfl (by decide +kernel) rfl rfl (Nat.le_of_ble_eq_true rfl) dX1_stepOverStuffed_22 (fun H locs hP hD hS => ?_)
  have hP : va_P (dC, dI) vwCl [(o, .inr (1, [.ref oR, .int st, .int sib, .int f_1, .int f_2, .int 0, .int ts.2.2.2])), (oR, .inr (0, [.int lf, .ref oa, .int rs.2])), (oa, .inl (cI, 600, .inl rs.1))] H := hP
  have hD : va_D A [(o, .inr (1, [.ref oR, .int st, .int sib, .int f_1, .int f_2, .int 0, .int ts.2.2.2])), (oR, .inr (0, [.int lf, .ref oa, .int rs.2])), (oa, .inl (cI, 600, .inl rs.1))] := hD
  have hP9 := hP.sub (ws' := [(o, .inr (1, [.ref oR, .int st, .int sib, .int f_1, .int f_2, .int 0, .int ts.2.2.2])), (oR, .inr (0, [.int lf, .ref oa, .int rs.2])), (oa, .inl (cI, 600, .inl rs.1))]) [0, 1, 2] rfl
  have hD9 := hD.sub (ws' := [(o, .inr (1, [.ref oR, .int st, .int sib, .int f_1, .int f_2, .int 0, .int ts.2.2.2])), (oR, .inr (0, [.int lf, .ref oa, .int rs.2])), (oa, .inl (cI, 600, .inl rs.1))]) [0, 1, 2] (by decide) rfl
  exact W.vret hx hb hr (fun t ht hW => ⟨⟨(f_1, f_2, 0, ts.2.2.2), rfl, (plX1_stepOverStuffed_0 st sib lf ts rs _ ef_1 _ ef_2), by rw [ht]; exact hP9, hD9⟩, hS.F ht⟩) hS.2.2 dX1_stepOverStuffed_25
def FX1_stepOverMark (st : Int32) (sib : Int32) (lf : Int32) (ts : Tk) (rs : Rw) : Tk :=
  let f_1 := ts.1 + 16
  let f_2 := f_1 >>> (3 &&& 31)
  (f_1, ts.2.1, ts.2.2.1, f_2)
set_option maxRecDepth 100000 in
theorem plX1_stepOverMark_0 (st : Int32) (sib : Int32) (lf : Int32) (ts : Tk) (rs : Rw) (f_1 : Int32) (ef_1 : f_1 = ts.1 + 16) (f_2 : Int32) (ef_2 : f_2 = f_1 >>> (3 &&& 31)) : (f_1, ts.2.1, ts.2.2.1, f_2) = FX1_stepOverMark st sib lf ts rs := by
  subst ef_1
  subst ef_2
  exact rfl
set_option maxHeartbeats 4000000 in
set_option maxRecDepth 100000 in
theorem mX1_stepOverMark (l : Launch) (dC : Nat → ClassId) (dI : Nat → Nat → Nat) (cI : ClassId) (o oR oa : Nat) (sz : Nat) (st : Int32) (sib : Int32) (lf : Int32) (ts : Tk) (rs : Rw) : Met l yX1_stepOverMark (Cond.code yX1_stepOverMark cX1_stepOverMark 1 none :: G) ({ frames := 0, cells := 0, slots := 0, locals := 0 } : Room) (va_Pc [.ref o] (fun U => U.heap.size = sz ∧ va_P (dC, dI) vwCl [(o, .inr (1, [.ref oR, .int st, .int sib, .int ts.1, .int ts.2.1, .int ts.2.2.1, .int ts.2.2.2])), (oR, .inr (0, [.int lf, .ref oa, .int rs.2])), (oa, .inl (cI, 600, .inl rs.1))] U.heap ∧ va_K (dC, dI) vwCl [(cI, .int)] U ∧ va_D (fun _ => True) [(o, .inr (1, [.ref oR, .int st, .int sib, .int ts.1, .int ts.2.1, .int ts.2.2.1, .int ts.2.2.2])), (oR, .inr (0, [.int lf, .ref oa, .int rs.2])), (oa, .inl (cI, 600, .inl rs.1))] ∧ zOk U)) (va_Qv (fun (u : Tk) => u = (FX1_stepOverMark st sib lf ts rs)) (fun (u : Tk) (t : State) => va_P (dC, dI) vwCl [(o, .inr (1, [.ref oR, .int st, .int sib, .int u.1, .int u.2.1, .int u.2.2.1, .int u.2.2.2])), (oR, .inr (0, [.int lf, .ref oa, .int rs.2])), (oa, .inl (cI, 600, .inl rs.1))] t.heap ∧ va_D (va_A [(o, .inr (1, [.ref oR, .int st, .int sib, .int ts.1, .int ts.2.1, .int ts.2.2.1, .int ts.2.2.2])), (oR, .inr (0, [.int lf, .ref oa, .int rs.2])), (oa, .inl (cI, 600, .inl rs.1))] sz) [(o, .inr (1, [.ref oR, .int st, .int sib, .int u.1, .int u.2.1, .int u.2.2.1, .int u.2.2.2])), (oR, .inr (0, [.int lf, .ref oa, .int rs.2])), (oa, .inl (cI, 600, .inl rs.1))]) (va_A [(o, .inr (1, [.ref oR, .int st, .int sib, .int ts.1, .int ts.2.1, .int ts.2.2.1, .int ts.2.2.2])), (oR, .inr (0, [.int lf, .ref oa, .int rs.2])), (oa, .inl (cI, 600, .inl rs.1))] sz)) 0 0 (va_A [(o, .inr (1, [.ref oR, .int st, .int sib, .int ts.1, .int ts.2.1, .int ts.2.2.1, .int ts.2.2.2])), (oR, .inr (0, [.int lf, .ref oa, .int rs.2])), (oa, .inl (cI, 600, .inl rs.1))] sz) := by
  refine Met.ofW (cc := cX1_stepOverMark) (maxL := 1) (ret := none) (by decide) rfl ?_
  intro p e s m args below meth c s₁ B hml hv
  obtain ⟨rfl, hsz, hP, hK, hD0, hZ⟩ := hv
  have hx := B.exec
  have hb := B.bytes
  have hr := B.returns
  have hts : ∀ w ∈ G, w.before [.ref o].toArray s = true := fun w h => atoms_spec (ws := (Cond.code yX1_stepOverMark cX1_stepOverMark 1 none :: G)) B.pre w (List.mem_cons_of_mem _ h)
  have hown : s.vm.findClass RX1 = some m.cls := findClass_of_methodNamed B.named
  have hlocks := B.notSynchronized
  subst hsz
  have hD := hD0.self (sz := s.heap.size)
  generalize hAe : va_A [(o, .inr (1, [.ref oR, .int st, .int sib, .int ts.1, .int ts.2.1, .int ts.2.2.1, .int ts.2.2.2])), (oR, .inr (0, [.int lf, .ref oa, .int rs.2])), (oa, .inl (cI, 600, .inl rs.1))] s.heap.size = A at hD ⊢
  have hA : ∀ q : Nat, s.heap.size ≤ q → A q := fun q h => by rw [← hAe]; exact Or.inr h
  have hS : va_S A s.heap s.heap [] := va_S.rf
  have hP : va_P (dC, dI) vwCl [(o, .inr (1, [.ref oR, .int st, .int sib, .int ts.1, .int ts.2.1, .int ts.2.2.1, .int ts.2.2.2])), (oR, .inr (0, [.int lf, .ref oa, .int rs.2])), (oa, .inl (cI, 600, .inl rs.1))] s.heap := hP
  have hl := lv_entry ([.ref o]) (n := 1) (Nat.le_of_ble_eq_true rfl)
  rw [lg_entry_eq]
  generalize (lg_sl ([.ref o]) ++ List.replicate (1 - (lg_sl ([.ref o])).length) Slot.unset).toArray = ls at hl ⊢
  have hl : lv_has ls 1 [(0, .ref o)] := hl
  refine lv_aload_n hx hb dX1_stepOverMark_0 rfl (lv_at hl 0 rfl) ?_
  refine lv_dup hx hb dX1_stepOverMark_1 rfl ?_
  refine va_get (D := (dC, dI)) (ci := 1) (v := .int ts.1) (C := RX1) (T := TX1) (N := 7) hx hb hts inGX1 hown hK hP 0 rfl rfl 3 (by decide) (hts _ wd79) (fun _ h9 => h9) rfl dX1_stepOverMark_2 ?_
  refine lv_bipush (v := 16) hx hb dX1_stepOverMark_5 (by decide) ?_
  refine lv_iadd hx hb dX1_stepOverMark_7 ?_
  refine lv_topi (fun f_1 ef_1 => ?_)
  refine va_put (D := (dC, dI)) (ci := 1) (v := .int f_1) (ty := .int) (C := RX1) (T := TX1) (N := 7) hx hb hts inGX1 tyX1 tyX1_ok nmX1 hown hK hP hD hS 0 rfl rfl 3 (by decide) (hts _ wd79) (fun _ h9 => h9) rfl (by decide +kernel) rfl rfl (Nat.le_of_ble_eq_true rfl) dX1_stepOverMark_8 (fun H locs hP hD hS => ?_)
  have hP : va_P (dC, dI) vwCl [(o, .inr (1, [.ref oR, .int st, .int sib, .int f_1, .int ts.2.1, .int ts.2.2.1, .int ts.2.2.2])), (oR, .inr (0, [.int lf, .ref oa, .int rs.2])), (oa, .inl (cI, 600, .inl rs.1))] H := hP
  have hD : va_D A [(o, .inr (1, [.ref oR, .int st, .int sib, .int f_1, .int ts.2.1, .int ts.2.2.1, .int ts.2.2.2])), (oR, .inr (0, [.int lf, .ref oa, .int rs.2])), (oa, .inl (cI, 600, .inl rs.1))] := hD
  refine lv_aload_n hx hb dX1_stepOverMark_11 rfl (lv_at hl 0 rfl) ?_
  refine lv_aload_n hx hb dX1_stepOverMark_12 rfl (lv_at hl 0 rfl) ?_
  refine va_get (D := (dC, dI)) (ci := 1) (v := .int f_1) (C := RX1) (T := TX1) (N := 7) hx hb hts inGX1 hown hK hP 0 rfl rfl 3 (by decide) (hts _ wd79) (fun _ h9 => h9) rfl dX1_stepOverMark_13 ?_
  refine lv_iconst (v := 3) hx hb dX1_stepOverMark_16 (by decide) ?_
  refine lv_ishr hx hb dX1_stepOverMark_17 ?_
  refine lv_topi (fun f_2 ef_2 => ?_)
  refine va_put (D := (dC, dI)) (ci := 1) (v := .int f_2) (ty := .int) (C := RX1) (T := TX1) (N := 7) hx hb hts inGX1 tyX1 tyX1_ok nmX1 hown hK hP hD hS 0 rfl rfl 6 (by decide) (hts _ wd82) (fun _ h9 => h9) rfl (by decide +kernel) rfl rfl (Nat.le_of_ble_eq_true rfl) dX1_stepOverMark_18 (fun H locs hP hD hS => ?_)
  have hP : va_P (dC, dI) vwCl [(o, .inr (1, [.ref oR, .int st, .int sib, .int f_1, .int ts.2.1, .int ts.2.2.1, .int f_2])), (oR, .inr (0, [.int lf, .ref oa, .int rs.2])), (oa, .inl (cI, 600, .inl rs.1))] H := hP
  have hD : va_D A [(o, .inr (1, [.ref oR, .int st, .int sib, .int f_1, .int ts.2.1, .int ts.2.2.1, .int f_2])), (oR, .inr (0, [.int lf, .ref oa, .int rs.2])), (oa, .inl (cI, 600, .inl rs.1))] := hD
  have hP9 := hP.sub (ws' := [(o, .inr (1, [.ref oR, .int st, .int sib, .int f_1, .int ts.2.1, .int ts.2.2.1, .int f_2])), (oR, .inr (0, [.int lf, .ref oa, .int rs.2])), (oa, .inl (cI, 600, .inl rs.1))]) [0, 1, 2] rfl
  have hD9 := hD.sub (ws' := [(o, .inr (1, [.ref oR, .int st, .int sib, .int f_1, .int ts.2.1, .int ts.2.2.1, .int f_2])), (oR, .inr (0, [.int lf, .ref oa, .int rs.2])), (oa, .inl (cI, 600, .inl rs.1))]) [0, 1, 2] (by decide) rfl
  exact W.vret hx hb hr (fun t ht hW => ⟨⟨(f_1, ts.2.1, ts.2.2.1, f_2), rfl, (plX1_stepOverMark_0 st sib lf ts rs _ ef_1 _ ef_2), by rw [ht]; exact hP9, hD9⟩, hS.F ht⟩) hS.2.2 dX1_stepOverMark_21
def FX1_goBack (st : Int32) (sib : Int32) (lf : Int32) (ts : Tk) (rs : Rw) (p0 : Int32) (p1 : Int32) (p2 : Int32) : Tk :=
  (p0, p1, p2, ts.2.2.2)
set_option maxRecDepth 100000 in
theorem plX1_goBack_0 (st : Int32) (sib : Int32) (lf : Int32) (ts : Tk) (rs : Rw) (p0 : Int32) (p1 : Int32) (p2 : Int32)  : (p0, p1, p2, ts.2.2.2) = FX1_goBack st sib lf ts rs p0 p1 p2 := by
  exact rfl
set_option maxHeartbeats 4000000 in
set_option maxRecDepth 100000 in
theorem mX1_goBack (l : Launch) (dC : Nat → ClassId) (dI : Nat → Nat → Nat) (cI : ClassId) (o oR oa : Nat) (sz : Nat) (st : Int32) (sib : Int32) (lf : Int32) (ts : Tk) (rs : Rw) (p0 : Int32) (p1 : Int32) (p2 : Int32) : Met l yX1_goBack (Cond.code yX1_goBack cX1_goBack 4 none :: G) ({ frames := 0, cells := 0, slots := 0, locals := 0 } : Room) (va_Pc [.ref o, .int p0, .int p1, .int p2] (fun U => U.heap.size = sz ∧ va_P (dC, dI) vwCl [(o, .inr (1, [.ref oR, .int st, .int sib, .int ts.1, .int ts.2.1, .int ts.2.2.1, .int ts.2.2.2])), (oR, .inr (0, [.int lf, .ref oa, .int rs.2])), (oa, .inl (cI, 600, .inl rs.1))] U.heap ∧ va_K (dC, dI) vwCl [(cI, .int)] U ∧ va_D (fun _ => True) [(o, .inr (1, [.ref oR, .int st, .int sib, .int ts.1, .int ts.2.1, .int ts.2.2.1, .int ts.2.2.2])), (oR, .inr (0, [.int lf, .ref oa, .int rs.2])), (oa, .inl (cI, 600, .inl rs.1))] ∧ zOk U)) (va_Qv (fun (u : Tk) => u = (FX1_goBack st sib lf ts rs p0 p1 p2)) (fun (u : Tk) (t : State) => va_P (dC, dI) vwCl [(o, .inr (1, [.ref oR, .int st, .int sib, .int u.1, .int u.2.1, .int u.2.2.1, .int u.2.2.2])), (oR, .inr (0, [.int lf, .ref oa, .int rs.2])), (oa, .inl (cI, 600, .inl rs.1))] t.heap ∧ va_D (va_A [(o, .inr (1, [.ref oR, .int st, .int sib, .int ts.1, .int ts.2.1, .int ts.2.2.1, .int ts.2.2.2])), (oR, .inr (0, [.int lf, .ref oa, .int rs.2])), (oa, .inl (cI, 600, .inl rs.1))] sz) [(o, .inr (1, [.ref oR, .int st, .int sib, .int u.1, .int u.2.1, .int u.2.2.1, .int u.2.2.2])), (oR, .inr (0, [.int lf, .ref oa, .int rs.2])), (oa, .inl (cI, 600, .inl rs.1))]) (va_A [(o, .inr (1, [.ref oR, .int st, .int sib, .int ts.1, .int ts.2.1, .int ts.2.2.1, .int ts.2.2.2])), (oR, .inr (0, [.int lf, .ref oa, .int rs.2])), (oa, .inl (cI, 600, .inl rs.1))] sz)) 0 0 (va_A [(o, .inr (1, [.ref oR, .int st, .int sib, .int ts.1, .int ts.2.1, .int ts.2.2.1, .int ts.2.2.2])), (oR, .inr (0, [.int lf, .ref oa, .int rs.2])), (oa, .inl (cI, 600, .inl rs.1))] sz) := by
  refine Met.ofW (cc := cX1_goBack) (maxL := 4) (ret := none) (by decide) rfl ?_
  intro p e s m args below meth c s₁ B hml hv
  obtain ⟨rfl, hsz, hP, hK, hD0, hZ⟩ := hv
  have hx := B.exec
  have hb := B.bytes
  have hr := B.returns
  have hts : ∀ w ∈ G, w.before [.ref o, .int p0, .int p1, .int p2].toArray s = true := fun w h => atoms_spec (ws := (Cond.code yX1_goBack cX1_goBack 4 none :: G)) B.pre w (List.mem_cons_of_mem _ h)
  have hown : s.vm.findClass RX1 = some m.cls := findClass_of_methodNamed B.named
  have hlocks := B.notSynchronized
  subst hsz
  have hD := hD0.self (sz := s.heap.size)
  generalize hAe : va_A [(o, .inr (1, [.ref oR, .int st, .int sib, .int ts.1, .int ts.2.1, .int ts.2.2.1, .int ts.2.2.2])), (oR, .inr (0, [.int lf, .ref oa, .int rs.2])), (oa, .inl (cI, 600, .inl rs.1))] s.heap.size = A at hD ⊢
  have hA : ∀ q : Nat, s.heap.size ≤ q → A q := fun q h => by rw [← hAe]; exact Or.inr h
  have hS : va_S A s.heap s.heap [] := va_S.rf
  have hP : va_P (dC, dI) vwCl [(o, .inr (1, [.ref oR, .int st, .int sib, .int ts.1, .int ts.2.1, .int ts.2.2.1, .int ts.2.2.2])), (oR, .inr (0, [.int lf, .ref oa, .int rs.2])), (oa, .inl (cI, 600, .inl rs.1))] s.heap := hP
  have hl := lv_entry ([.ref o, .int p0, .int p1, .int p2]) (n := 4) (Nat.le_of_ble_eq_true rfl)
  rw [lg_entry_eq]
  generalize (lg_sl ([.ref o, .int p0, .int p1, .int p2]) ++ List.replicate (4 - (lg_sl ([.ref o, .int p0, .int p1, .int p2])).length) Slot.unset).toArray = ls at hl ⊢
  have hl : lv_has ls 4 [(0, .ref o), (1, .int p0), (2, .int p1), (3, .int p2)] := hl
  refine lv_aload_n hx hb dX1_goBack_0 rfl (lv_at hl 0 rfl) ?_
  refine lv_iload_n hx hb dX1_goBack_1 rfl (lv_at hl 1 rfl) ?_
  refine va_put (D := (dC, dI)) (ci := 1) (v := .int p0) (ty := .int) (C := RX1) (T := TX1) (N := 7) hx hb hts inGX1 tyX1 tyX1_ok nmX1 hown hK hP hD hS 0 rfl rfl 3 (by decide) (hts _ wd79) (fun _ h9 => h9) rfl (by decide +kernel) rfl rfl (Nat.le_of_ble_eq_true rfl) dX1_goBack_2 (fun H locs hP hD hS => ?_)
  have hP : va_P (dC, dI) vwCl [(o, .inr (1, [.ref oR, .int st, .int sib, .int p0, .int ts.2.1, .int ts.2.2.1, .int ts.2.2.2])), (oR, .inr (0, [.int lf, .ref oa, .int rs.2])), (oa, .inl (cI, 600, .inl rs.1))] H := hP
  have hD : va_D A [(o, .inr (1, [.ref oR, .int st, .int sib, .int p0, .int ts.2.1, .int ts.2.2.1, .int ts.2.2.2])), (oR, .inr (0, [.int lf, .ref oa, .int rs.2])), (oa, .inl (cI, 600, .inl rs.1))] := hD
  refine lv_aload_n hx hb dX1_goBack_5 rfl (lv_at hl 0 rfl) ?_
  refine lv_iload_n hx hb dX1_goBack_6 rfl (lv_at hl 2 rfl) ?_
  refine va_put (D := (dC, dI)) (ci := 1) (v := .int p1) (ty := .int) (C := RX1) (T := TX1) (N := 7) hx hb hts inGX1 tyX1 tyX1_ok nmX1 hown hK hP hD hS 0 rfl rfl 4 (by decide) (hts _ wd80) (fun _ h9 => h9) rfl (by decide +kernel) rfl rfl (Nat.le_of_ble_eq_true rfl) dX1_goBack_7 (fun H locs hP hD hS => ?_)
  have hP : va_P (dC, dI) vwCl [(o, .inr (1, [.ref oR, .int st, .int sib, .int p0, .int p1, .int ts.2.2.1, .int ts.2.2.2])), (oR, .inr (0, [.int lf, .ref oa, .int rs.2])), (oa, .inl (cI, 600, .inl rs.1))] H := hP
  have hD : va_D A [(o, .inr (1, [.ref oR, .int st, .int sib, .int p0, .int p1, .int ts.2.2.1, .int ts.2.2.2])), (oR, .inr (0, [.int lf, .ref oa, .int rs.2])), (oa, .inl (cI, 600, .inl rs.1))] := hD
  refine lv_aload_n hx hb dX1_goBack_10 rfl (lv_at hl 0 rfl) ?_
  refine lv_iload_n hx hb dX1_goBack_11 rfl (lv_at hl 3 rfl) ?_
  refine va_put (D := (dC, dI)) (ci := 1) (v := .int p2) (ty := .int) (C := RX1) (T := TX1) (N := 7) hx hb hts inGX1 tyX1 tyX1_ok nmX1 hown hK hP hD hS 0 rfl rfl 5 (by decide) (hts _ wd81) (fun _ h9 => h9) rfl (by decide +kernel) rfl rfl (Nat.le_of_ble_eq_true rfl) dX1_goBack_12 (fun H locs hP hD hS => ?_)
  have hP : va_P (dC, dI) vwCl [(o, .inr (1, [.ref oR, .int st, .int sib, .int p0, .int p1, .int p2, .int ts.2.2.2])), (oR, .inr (0, [.int lf, .ref oa, .int rs.2])), (oa, .inl (cI, 600, .inl rs.1))] H := hP
  have hD : va_D A [(o, .inr (1, [.ref oR, .int st, .int sib, .int p0, .int p1, .int p2, .int ts.2.2.2])), (oR, .inr (0, [.int lf, .ref oa, .int rs.2])), (oa, .inl (cI, 600, .inl rs.1))] := hD
  have hP9 := hP.sub (ws' := [(o, .inr (1, [.ref oR, .int st, .int sib, .int p0, .int p1, .int p2, .int ts.2.2.2])), (oR, .inr (0, [.int lf, .ref oa, .int rs.2])), (oa, .inl (cI, 600, .inl rs.1))]) [0, 1, 2] rfl
  have hD9 := hD.sub (ws' := [(o, .inr (1, [.ref oR, .int st, .int sib, .int p0, .int p1, .int p2, .int ts.2.2.2])), (oR, .inr (0, [.int lf, .ref oa, .int rs.2])), (oa, .inl (cI, 600, .inl rs.1))]) [0, 1, 2] (by decide) rfl
  exact W.vret hx hb hr (fun t ht hW => ⟨⟨(p0, p1, p2, ts.2.2.2), rfl, (plX1_goBack_0 st sib lf ts rs p0 p1 p2), by rw [ht]; exact hP9, hD9⟩, hS.F ht⟩) hS.2.2 dX1_goBack_15
def FX1_goToStart (st : Int32) (sib : Int32) (lf : Int32) (ts : Tk) (rs : Rw) : Tk :=
  let u_2 := FX1_goBack st sib lf ts rs 0 0 0
  (u_2.1, u_2.2.1, u_2.2.2.1, 0)
set_option maxRecDepth 100000 in
theorem plX1_goToStart_0 (st : Int32) (sib : Int32) (lf : Int32) (ts : Tk) (rs : Rw) (u_2 : Tk) (hw_1 : u_2 = FX1_goBack st sib lf ts rs 0 0 0) : (u_2.1, u_2.2.1, u_2.2.2.1, 0) = FX1_goToStart st sib lf ts rs := by
  subst hw_1
  exact rfl
set_option maxHeartbeats 4000000 in
set_option maxRecDepth 100000 in
theorem mX1_goToStart (l : Launch) (dC : Nat → ClassId) (dI : Nat → Nat → Nat) (cI : ClassId) (o oR oa : Nat) (sz : Nat) (st : Int32) (sib : Int32) (lf : Int32) (ts : Tk) (rs : Rw) : Met l yX1_goToStart (Cond.code yX1_goToStart cX1_goToStart 1 none :: G) ({ frames := 1, cells := 0, slots := 0, locals := 23 } : Room) (va_Pc [.ref o] (fun U => U.heap.size = sz ∧ va_P (dC, dI) vwCl [(o, .inr (1, [.ref oR, .int st, .int sib, .int ts.1, .int ts.2.1, .int ts.2.2.1, .int ts.2.2.2])), (oR, .inr (0, [.int lf, .ref oa, .int rs.2])), (oa, .inl (cI, 600, .inl rs.1))] U.heap ∧ va_K (dC, dI) vwCl [(cI, .int)] U ∧ va_D (fun _ => True) [(o, .inr (1, [.ref oR, .int st, .int sib, .int ts.1, .int ts.2.1, .int ts.2.2.1, .int ts.2.2.2])), (oR, .inr (0, [.int lf, .ref oa, .int rs.2])), (oa, .inl (cI, 600, .inl rs.1))] ∧ zOk U)) (va_Qv (fun (u : Tk) => u = (FX1_goToStart st sib lf ts rs)) (fun (u : Tk) (t : State) => va_P (dC, dI) vwCl [(o, .inr (1, [.ref oR, .int st, .int sib, .int u.1, .int u.2.1, .int u.2.2.1, .int u.2.2.2])), (oR, .inr (0, [.int lf, .ref oa, .int rs.2])), (oa, .inl (cI, 600, .inl rs.1))] t.heap ∧ va_D (va_A [(o, .inr (1, [.ref oR, .int st, .int sib, .int ts.1, .int ts.2.1, .int ts.2.2.1, .int ts.2.2.2])), (oR, .inr (0, [.int lf, .ref oa, .int rs.2])), (oa, .inl (cI, 600, .inl rs.1))] sz) [(o, .inr (1, [.ref oR, .int st, .int sib, .int u.1, .int u.2.1, .int u.2.2.1, .int u.2.2.2])), (oR, .inr (0, [.int lf, .ref oa, .int rs.2])), (oa, .inl (cI, 600, .inl rs.1))]) (va_A [(o, .inr (1, [.ref oR, .int st, .int sib, .int ts.1, .int ts.2.1, .int ts.2.2.1, .int ts.2.2.2])), (oR, .inr (0, [.int lf, .ref oa, .int rs.2])), (oa, .inl (cI, 600, .inl rs.1))] sz)) 0 0 (va_A [(o, .inr (1, [.ref oR, .int st, .int sib, .int ts.1, .int ts.2.1, .int ts.2.2.1, .int ts.2.2.2])), (oR, .inr (0, [.int lf, .ref oa, .int rs.2])), (oa, .inl (cI, 600, .inl rs.1))] sz) := by
  refine Met.ofW (cc := cX1_goToStart) (maxL := 1) (ret := none) (by decide) rfl ?_
  intro p e s m args below meth c s₁ B hml hv
  obtain ⟨rfl, hsz, hP, hK, hD0, hZ⟩ := hv
  have hx := B.exec
  have hb := B.bytes
  have hr := B.returns
  have hts : ∀ w ∈ G, w.before [.ref o].toArray s = true := fun w h => atoms_spec (ws := (Cond.code yX1_goToStart cX1_goToStart 1 none :: G)) B.pre w (List.mem_cons_of_mem _ h)
  have hown : s.vm.findClass RX1 = some m.cls := findClass_of_methodNamed B.named
  have hlocks := B.notSynchronized
  subst hsz
  have hD := hD0.self (sz := s.heap.size)
  generalize hAe : va_A [(o, .inr (1, [.ref oR, .int st, .int sib, .int ts.1, .int ts.2.1, .int ts.2.2.1, .int ts.2.2.2])), (oR, .inr (0, [.int lf, .ref oa, .int rs.2])), (oa, .inl (cI, 600, .inl rs.1))] s.heap.size = A at hD ⊢
  have hA : ∀ q : Nat, s.heap.size ≤ q → A q := fun q h => by rw [← hAe]; exact Or.inr h
  have hS : va_S A s.heap s.heap [] := va_S.rf
  have hP : va_P (dC, dI) vwCl [(o, .inr (1, [.ref oR, .int st, .int sib, .int ts.1, .int ts.2.1, .int ts.2.2.1, .int ts.2.2.2])), (oR, .inr (0, [.int lf, .ref oa, .int rs.2])), (oa, .inl (cI, 600, .inl rs.1))] s.heap := hP
  have hl := lv_entry ([.ref o]) (n := 1) (Nat.le_of_ble_eq_true rfl)
  rw [lg_entry_eq]
  generalize (lg_sl ([.ref o]) ++ List.replicate (1 - (lg_sl ([.ref o])).length) Slot.unset).toArray = ls at hl ⊢
  have hl : lv_has ls 1 [(0, .ref o)] := hl
  refine lv_aload_n hx hb dX1_goToStart_0 rfl (lv_at hl 0 rfl) ?_
  refine lv_iconst (v := 0) hx hb dX1_goToStart_1 (by decide) ?_
  refine lv_iconst (v := 0) hx hb dX1_goToStart_2 (by decide) ?_
  refine lv_iconst (v := 0) hx hb dX1_goToStart_3 (by decide) ?_
  have hPc := hP.sub (ws' := [(o, .inr (1, [.ref oR, .int st, .int sib, .int ts.1, .int ts.2.1, .int ts.2.2.1, .int ts.2.2.2])), (oR, .inr (0, [.int lf, .ref oa, .int rs.2])), (oa, .inl (cI, 600, .inl rs.1))]) [0, 1, 2] rfl
  have hKc := hK.sub (tys' := [(cI, .int)]) [0] rfl
  have hDc := hD.sub (ws' := [(o, .inr (1, [.ref oR, .int st, .int sib, .int ts.1, .int ts.2.1, .int ts.2.2.1, .int ts.2.2.2])), (oR, .inr (0, [.int lf, .ref oa, .int rs.2])), (oa, .inl (cI, 600, .inl rs.1))]) [0, 1, 2] (by decide) rfl
  have hFc := va_free (wc := [(o, .inr (1, [.ref oR, .int st, .int sib, .int ts.1, .int ts.2.1, .int ts.2.2.1, .int ts.2.2.2])), (oR, .inr (0, [.int lf, .ref oa, .int rs.2])), (oa, .inl (cI, 600, .inl rs.1))]) hD hS hA [0, 1, 2] rfl
  refine va_callv (va_runV (As := [.int 0, .int 0, .int 0]) (rest := []) ⟨hx, hb, hml, hown, hts⟩ (mX1_goBack l dC dI cI o oR oa s.heap.size st sib lf ts rs 0 0 0) (cwV 3 hts (gV wd195 wd196 wd197 wd29 wd198) rfl rfl rfl (by decide +kernel) ⟨Nat.le_of_ble_eq_true rfl, Nat.le_of_ble_eq_true rfl⟩) ⟨fb_rw, va_recv hKc hPc (ci := 1) (q0 := 0) rfl rfl, pre_rw hPc hKc hDc hZ⟩ rfl rfl hl.1 rfl (lv_room (Nat.le_of_ble_eq_true rfl)) dX1_goToStart_4 ⟨Nat.le_of_ble_eq_true rfl, Nat.le_of_ble_eq_true rfl⟩) hS (fun q _ h => hFc q h) hFc (fun u_2 t H1 locs ht hvm hw_1 hB hz1 hk1 hS => ?_)
  obtain ⟨hP1, hD1⟩ := hB
  rw [ht] at hP1
  obtain ⟨hP, hD⟩ := va_join (wr := []) (w1 := [(o, .inr (1, [.ref oR, .int st, .int sib, .int u_2.1, .int u_2.2.1, .int u_2.2.2.1, .int u_2.2.2.2])), (oR, .inr (0, [.int lf, .ref oa, .int rs.2])), (oa, .inl (cI, 600, .inl rs.1))]) hP hD [0, 1, 2] [] rfl rfl (by decide) (by decide) hk1 hFc hP1 hD1
  generalize H1 = H at hP hS ⊢
  have hP : va_P (dC, dI) vwCl [(o, .inr (1, [.ref oR, .int st, .int sib, .int u_2.1, .int u_2.2.1, .int u_2.2.2.1, .int u_2.2.2.2])), (oR, .inr (0, [.int lf, .ref oa, .int rs.2])), (oa, .inl (cI, 600, .inl rs.1))] H := hP
  have hD : va_D A [(o, .inr (1, [.ref oR, .int st, .int sib, .int u_2.1, .int u_2.2.1, .int u_2.2.2.1, .int u_2.2.2.2])), (oR, .inr (0, [.int lf, .ref oa, .int rs.2])), (oa, .inl (cI, 600, .inl rs.1))] := hD
  refine lv_aload_n hx hb dX1_goToStart_7 rfl (lv_at hl 0 rfl) ?_
  refine lv_iconst (v := 0) hx hb dX1_goToStart_8 (by decide) ?_
  refine va_put (D := (dC, dI)) (ci := 1) (v := .int 0) (ty := .int) (C := RX1) (T := TX1) (N := 7) hx hb hts inGX1 tyX1 tyX1_ok nmX1 hown hK hP hD hS 0 rfl rfl 6 (by decide) (hts _ wd82) (fun _ h9 => h9) rfl (by decide +kernel) rfl rfl (Nat.le_of_ble_eq_true rfl) dX1_goToStart_9 (fun H locs hP hD hS => ?_)
  have hP : va_P (dC, dI) vwCl [(o, .inr (1, [.ref oR, .int st, .int sib, .int u_2.1, .int u_2.2.1, .int u_2.2.2.1, .int 0])), (oR, .inr (0, [.int lf, .ref oa, .int rs.2])), (oa, .inl (cI, 600, .inl rs.1))] H := hP
  have hD : va_D A [(o, .inr (1, [.ref oR, .int st, .int sib, .int u_2.1, .int u_2.2.1, .int u_2.2.2.1, .int 0])), (oR, .inr (0, [.int lf, .ref oa, .int rs.2])), (oa, .inl (cI, 600, .inl rs.1))] := hD
  have hP9 := hP.sub (ws' := [(o, .inr (1, [.ref oR, .int st, .int sib, .int u_2.1, .int u_2.2.1, .int u_2.2.2.1, .int 0])), (oR, .inr (0, [.int lf, .ref oa, .int rs.2])), (oa, .inl (cI, 600, .inl rs.1))]) [0, 1, 2] rfl
  have hD9 := hD.sub (ws' := [(o, .inr (1, [.ref oR, .int st, .int sib, .int u_2.1, .int u_2.2.1, .int u_2.2.2.1, .int 0])), (oR, .inr (0, [.int lf, .ref oa, .int rs.2])), (oa, .inl (cI, 600, .inl rs.1))]) [0, 1, 2] (by decide) rfl
  exact W.vret hx hb hr (fun t ht hW => ⟨⟨(u_2.1, u_2.2.1, u_2.2.2.1, 0), rfl, (plX1_goToStart_0 st sib lf ts rs _ hw_1), by rw [ht]; exact hP9, hD9⟩, hS.F ht⟩) hS.2.2 dX1_goToStart_12
