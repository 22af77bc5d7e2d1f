def FX2_shiftOf (st : Int32) (lf : Int32) (ao : Int32) (sib : Int32) (wr : Rw) (tw : Tk) (cr : Rw) (tr : Tk) (bad : Int32) (p0 : Int32) (p1 : Int32) : Int32 :=
  if lf = 0 then
    (p1 - 1) - p0
  else
    p0
set_option maxRecDepth 100000 in
theorem plX2_shiftOf_0 (st : Int32) (lf : Int32) (ao : Int32) (sib : Int32) (wr : Rw) (tw : Tk) (cr : Rw) (tr : Tk) (bad : Int32) (p0 : Int32) (p1 : Int32) (c_4 : lf = 0) : (p1 - 1) - p0 = FX2_shiftOf st lf ao sib wr tw cr tr bad p0 p1 := by
  exact (if_pos c_4).symm
set_option maxRecDepth 100000 in
theorem plX2_shiftOf_1 (st : Int32) (lf : Int32) (ao : Int32) (sib : Int32) (wr : Rw) (tw : Tk) (cr : Rw) (tr : Tk) (bad : Int32) (p0 : Int32) (p1 : Int32) (c_4 : ¬ (lf = 0)) : p0 = FX2_shiftOf st lf ao sib wr tw cr tr bad p0 p1 := by
  exact (if_neg c_4).symm
set_option maxHeartbeats 4000000 in
set_option maxRecDepth 100000 in
theorem mX2_shiftOf (l : Launch) (dC : Nat → ClassId) (dI : Nat → Nat → Nat) (cIw cIc : ClassId) (ox ow oaw og oc oac od : Nat) (st : Int32) (lf : Int32) (ao : Int32) (sib : Int32) (wr : Rw) (tw : Tk) (cr : Rw) (tr : Tk) (bad : Int32) (p0 : Int32) (p1 : Int32) : Met l yX2_shiftOf (Cond.code yX2_shiftOf cX2_shiftOf 3 (some .int) :: G) ({ frames := 0, cells := 0, slots := 0, locals := 0 } : Room) (va_Pc [.ref ox, .int p0, .int p1] (fun U => va_P (dC, dI) vwCl [(ox, .inr (2, [.int st, .int lf, .int ao, .ref ow, .ref og, .ref oc, .ref od, .int bad])), (ow, .inr (0, [.int lf, .ref oaw, .int wr.2])), (oaw, .inl (cIw, 600, .inl wr.1)), (og, .inr (1, [.ref ow, .int st, .int sib, .int tw.1, .int tw.2.1, .int tw.2.2.1, .int tw.2.2.2])), (oc, .inr (0, [.int lf, .ref oac, .int cr.2])), (oac, .inl (cIc, 600, .inl cr.1)), (od, .inr (1, [.ref oc, .int st, .int sib, .int tr.1, .int tr.2.1, .int tr.2.2.1, .int tr.2.2.2]))] U.heap ∧ va_K (dC, dI) vwCl [(cIw, .int), (cIc, .int)] U ∧ zOk U)) (vp_Si (fun r => r = (FX2_shiftOf st lf ao sib wr tw cr tr bad p0 p1))) 0 0 (fun _ => False) := by
  refine Met.ofW (cc := cX2_shiftOf) (maxL := 3) (ret := (some .int)) (by decide) rfl ?_
  intro p e s m args below meth c s₁ B hml hv
  obtain ⟨rfl, hP, hK, hZ⟩ := hv
  have hx := B.exec
  have hb := B.bytes
  have hr := B.returns
  have hts : ∀ w ∈ G, w.before [.ref ox, .int p0, .int p1].toArray s = true := fun w h => atoms_spec (ws := (Cond.code yX2_shiftOf cX2_shiftOf 3 (some .int) :: G)) B.pre w (List.mem_cons_of_mem _ h)
  have hown : s.vm.findClass RX2 = some m.cls := findClass_of_methodNamed B.named
  have hlocks := B.notSynchronized
  have hl := lv_entry ([.ref ox, .int p0, .int p1]) (n := 3) (Nat.le_of_ble_eq_true rfl)
  rw [lg_entry_eq]
  generalize (lg_sl ([.ref ox, .int p0, .int p1]) ++ List.replicate (3 - (lg_sl ([.ref ox, .int p0, .int p1])).length) Slot.unset).toArray = ls at hl ⊢
  have hl : lv_has ls 3 [(0, .ref ox), (1, .int p0), (2, .int p1)] := hl
  refine lv_aload_n hx hb dX2_shiftOf_0 rfl (lv_at hl 0 rfl) ?_
  refine va_get (D := (dC, dI)) (ci := 2) (v := .int lf) (C := RX2) (T := TX2) (N := 8) hx hb hts inGX2 hown hK hP 0 rfl rfl 1 (by decide) (hts _ wd99) (fun _ h9 => h9) rfl dX2_shiftOf_1 ?_
  refine lv_if_eq (tgt := 11) hx hb dX2_shiftOf_4 (by decide) (fun c_4 => ?_) (fun c_4 => ?_)
  · refine lv_iload_n hx hb dX2_shiftOf_11 rfl (lv_at hl 2 rfl) ?_
    refine lv_iconst (v := 1) hx hb dX2_shiftOf_12 (by decide) ?_
    refine lv_isub hx hb dX2_shiftOf_13 ?_
    refine lv_iload_n hx hb dX2_shiftOf_14 rfl (lv_at hl 1 rfl) ?_
    refine lv_isub hx hb dX2_shiftOf_15 ?_
    exact W.iret (v := (p1 - 1) - p0) hx hb hr (fun t ht hW => ⟨(p1 - 1) - p0, rfl, (plX2_shiftOf_0 st lf ao sib wr tw cr tr bad p0 p1 c_4), ht⟩) (fun q h => nomatch h) dX2_shiftOf_16
  · refine lv_iload_n hx hb dX2_shiftOf_7 rfl (lv_at hl 1 rfl) ?_
    refine lv_goto (tgt := 16) hx hb dX2_shiftOf_8 (by decide) ?_
    exact W.iret (v := p0) hx hb hr (fun t ht hW => ⟨p0, rfl, (plX2_shiftOf_1 st lf ao sib wr tw cr tr bad p0 p1 c_4), ht⟩) (fun q h => nomatch h) dX2_shiftOf_16
def FX2_writeStuffedIfDue (st : Int32) (lf : Int32) (ao : Int32) (sib : Int32) (wr : Rw) (tw : Tk) (cr : Rw) (tr : Tk) (bad : Int32) : Rw × Tk :=
  let r_1 := FX1_isStuffedDue st sib lf tw wr
  if r_1 = 0 then
    (wr, tw)
  else
    let u_4 := FX0_setBit lf wr tw.1 0
    let u_6 := FX1_stepOverStuffed st sib lf tw u_4
    (u_4, u_6)
set_option maxRecDepth 100000 in
theorem plX2_writeStuffedIfDue_0 (st : Int32) (lf : Int32) (ao : Int32) (sib : Int32) (wr : Rw) (tw : Tk) (cr : Rw) (tr : Tk) (bad : Int32) (r_1 : Int32) (hw_2 : r_1 = FX1_isStuffedDue st sib lf tw wr) (c_7 : r_1 = 0) : (wr, tw) = FX2_writeStuffedIfDue st lf ao sib wr tw cr tr bad := by
  subst hw_2
  exact (if_pos c_7).symm
set_option maxRecDepth 100000 in
theorem plX2_writeStuffedIfDue_1 (st : Int32) (lf : Int32) (ao : Int32) (sib : Int32) (wr : Rw) (tw : Tk) (cr : Rw) (tr : Tk) (bad : Int32) (r_1 : Int32) (hw_2 : r_1 = FX1_isStuffedDue st sib lf tw wr) (c_7 : ¬ (r_1 = 0)) (u_4 : Rw) (hw_3 : u_4 = FX0_setBit lf wr tw.1 0) (u_6 : Tk) (hw_5 : u_6 = FX1_stepOverStuffed st sib lf tw u_4) : (u_4, u_6) = FX2_writeStuffedIfDue st lf ao sib wr tw cr tr bad := by
  subst hw_2
  subst hw_3
  subst hw_5
  exact (if_neg c_7).symm
set_option maxHeartbeats 4000000 in
set_option maxRecDepth 100000 in
theorem mX2_writeStuffedIfDue (l : Launch) (dC : Nat → ClassId) (dI : Nat → Nat → Nat) (cIw cIc : ClassId) (ox ow oaw og oc oac od : Nat) (sz : Nat) (st : Int32) (lf : Int32) (ao : Int32) (sib : Int32) (wr : Rw) (tw : Tk) (cr : Rw) (tr : Tk) (bad : Int32) : Met l yX2_writeStuffedIfDue (Cond.code yX2_writeStuffedIfDue cX2_writeStuffedIfDue 1 none :: G) ({ frames := 3, cells := 0, slots := 0, locals := 62 } : Room) (va_Pc [.ref ox] (fun U => U.heap.size = sz ∧ va_P (dC, dI) vwCl [(ox, .inr (2, [.int st, .int lf, .int ao, .ref ow, .ref og, .ref oc, .ref od, .int bad])), (ow, .inr (0, [.int lf, .ref oaw, .int wr.2])), (oaw, .inl (cIw, 600, .inl wr.1)), (og, .inr (1, [.ref ow, .int st, .int sib, .int tw.1, .int tw.2.1, .int tw.2.2.1, .int tw.2.2.2])), (oc, .inr (0, [.int lf, .ref oac, .int cr.2])), (oac, .inl (cIc, 600, .inl cr.1)), (od, .inr (1, [.ref oc, .int st, .int sib, .int tr.1, .int tr.2.1, .int tr.2.2.1, .int tr.2.2.2]))] U.heap ∧ va_K (dC, dI) vwCl [(cIw, .int), (cIc, .int)] U ∧ va_D (fun _ => True) [(ox, .inr (2, [.int st, .int lf, .int ao, .ref ow, .ref og, .ref oc, .ref od, .int bad])), (ow, .inr (0, [.int lf, .ref oaw, .int wr.2])), (oaw, .inl (cIw, 600, .inl wr.1)), (og, .inr (1, [.ref ow, .int st, .int sib, .int tw.1, .int tw.2.1, .int tw.2.2.1, .int tw.2.2.2])), (oc, .inr (0, [.int lf, .ref oac, .int cr.2])), (oac, .inl (cIc, 600, .inl cr.1)), (od, .inr (1, [.ref oc, .int st, .int sib, .int tr.1, .int tr.2.1, .int tr.2.2.1, .int tr.2.2.2]))] ∧ zOk U)) (va_Qv (fun (u : Rw × Tk) => u = (FX2_writeStuffedIfDue st lf ao sib wr tw cr tr bad)) (fun (u : Rw × Tk) (t : State) => va_P (dC, dI) vwCl [(ox, .inr (2, [.int st, .int lf, .int ao, .ref ow, .ref og, .ref oc, .ref od, .int bad])), (ow, .inr (0, [.int lf, .ref oaw, .int u.1.2])), (oaw, .inl (cIw, 600, .inl u.1.1)), (og, .inr (1, [.ref ow, .int st, .int sib, .int u.2.1, .int u.2.2.1, .int u.2.2.2.1, .int u.2.2.2.2])), (oc, .inr (0, [.int lf, .ref oac, .int cr.2])), (oac, .inl (cIc, 600, .inl cr.1)), (od, .inr (1, [.ref oc, .int st, .int sib, .int tr.1, .int tr.2.1, .int tr.2.2.1, .int tr.2.2.2]))] t.heap ∧ va_D (va_A [(ox, .inr (2, [.int st, .int lf, .int ao, .ref ow, .ref og, .ref oc, .ref od, .int bad])), (ow, .inr (0, [.int lf, .ref oaw, .int wr.2])), (oaw, .inl (cIw, 600, .inl wr.1)), (og, .inr (1, [.ref ow, .int st, .int sib, .int tw.1, .int tw.2.1, .int tw.2.2.1, .int tw.2.2.2])), (oc, .inr (0, [.int lf, .ref oac, .int cr.2])), (oac, .inl (cIc, 600, .inl cr.1)), (od, .inr (1, [.ref oc, .int st, .int sib, .int tr.1, .int tr.2.1, .int tr.2.2.1, .int tr.2.2.2]))] sz) [(ox, .inr (2, [.int st, .int lf, .int ao, .ref ow, .ref og, .ref oc, .ref od, .int bad])), (ow, .inr (0, [.int lf, .ref oaw, .int u.1.2])), (oaw, .inl (cIw, 600, .inl u.1.1)), (og, .inr (1, [.ref ow, .int st, .int sib, .int u.2.1, .int u.2.2.1, .int u.2.2.2.1, .int u.2.2.2.2])), (oc, .inr (0, [.int lf, .ref oac, .int cr.2])), (oac, .inl (cIc, 600, .inl cr.1)), (od, .inr (1, [.ref oc, .int st, .int sib, .int tr.1, .int tr.2.1, .int tr.2.2.1, .int tr.2.2.2]))]) (va_A [(ox, .inr (2, [.int st, .int lf, .int ao, .ref ow, .ref og, .ref oc, .ref od, .int bad])), (ow, .inr (0, [.int lf, .ref oaw, .int wr.2])), (oaw, .inl (cIw, 600, .inl wr.1)), (og, .inr (1, [.ref ow, .int st, .int sib, .int tw.1, .int tw.2.1, .int tw.2.2.1, .int tw.2.2.2])), (oc, .inr (0, [.int lf, .ref oac, .int cr.2])), (oac, .inl (cIc, 600, .inl cr.1)), (od, .inr (1, [.ref oc, .int st, .int sib, .int tr.1, .int tr.2.1, .int tr.2.2.1, .int tr.2.2.2]))] sz)) 0 0 (va_A [(ox, .inr (2, [.int st, .int lf, .int ao, .ref ow, .ref og, .ref oc, .ref od, .int bad])), (ow, .inr (0, [.int lf, .ref oaw, .int wr.2])), (oaw, .inl (cIw, 600, .inl wr.1)), (og, .inr (1, [.ref ow, .int st, .int sib, .int tw.1, .int tw.2.1, .int tw.2.2.1, .int tw.2.2.2])), (oc, .inr (0, [.int lf, .ref oac, .int cr.2])), (oac, .inl (cIc, 600, .inl cr.1)), (od, .inr (1, [.ref oc, .int st, .int sib, .int tr.1, .int tr.2.1, .int tr.2.2.1, .int tr.2.2.2]))] sz) := by
  refine Met.ofW (cc := cX2_writeStuffedIfDue) (maxL := 1) (ret := none) (by decide) rfl ?_
  intro p e s m args below meth c s₁ B hml hv
  obtain ⟨rfl, hsz, hP, hK, hD0, hZ⟩ := hv
  have hx := B.exec
  have hb := B.bytes
  have hr := B.returns
  have hts : ∀ w ∈ G, w.before [.ref ox].toArray s = true := fun w h => atoms_spec (ws := (Cond.code yX2_writeStuffedIfDue cX2_writeStuffedIfDue 1 none :: G)) B.pre w (List.mem_cons_of_mem _ h)
  have hown : s.vm.findClass RX2 = some m.cls := findClass_of_methodNamed B.named
  have hlocks := B.notSynchronized
  subst hsz
  have hD := hD0.self (sz := s.heap.size)
  generalize hAe : va_A [(ox, .inr (2, [.int st, .int lf, .int ao, .ref ow, .ref og, .ref oc, .ref od, .int bad])), (ow, .inr (0, [.int lf, .ref oaw, .int wr.2])), (oaw, .inl (cIw, 600, .inl wr.1)), (og, .inr (1, [.ref ow, .int st, .int sib, .int tw.1, .int tw.2.1, .int tw.2.2.1, .int tw.2.2.2])), (oc, .inr (0, [.int lf, .ref oac, .int cr.2])), (oac, .inl (cIc, 600, .inl cr.1)), (od, .inr (1, [.ref oc, .int st, .int sib, .int tr.1, .int tr.2.1, .int tr.2.2.1, .int tr.2.2.2]))] s.heap.size = A at hD ⊢
  have hA : ∀ q : Nat, s.heap.size ≤ q → A q := fun q h => by rw [← hAe]; exact Or.inr h
  have hS : va_S A s.heap s.heap [] := va_S.rf
  have hP : va_P (dC, dI) vwCl [(ox, .inr (2, [.int st, .int lf, .int ao, .ref ow, .ref og, .ref oc, .ref od, .int bad])), (ow, .inr (0, [.int lf, .ref oaw, .int wr.2])), (oaw, .inl (cIw, 600, .inl wr.1)), (og, .inr (1, [.ref ow, .int st, .int sib, .int tw.1, .int tw.2.1, .int tw.2.2.1, .int tw.2.2.2])), (oc, .inr (0, [.int lf, .ref oac, .int cr.2])), (oac, .inl (cIc, 600, .inl cr.1)), (od, .inr (1, [.ref oc, .int st, .int sib, .int tr.1, .int tr.2.1, .int tr.2.2.1, .int tr.2.2.2]))] s.heap := hP
  have hl := lv_entry ([.ref ox]) (n := 1) (Nat.le_of_ble_eq_true rfl)
  rw [lg_entry_eq]
  generalize (lg_sl ([.ref ox]) ++ List.replicate (1 - (lg_sl ([.ref ox])).length) Slot.unset).toArray = ls at hl ⊢
  have hl : lv_has ls 1 [(0, .ref ox)] := hl
  refine lv_aload_n hx hb dX2_writeStuffedIfDue_0 rfl (lv_at hl 0 rfl) ?_
  refine va_get (D := (dC, dI)) (ci := 2) (v := .ref og) (C := RX2) (T := TX2) (N := 8) hx hb hts inGX2 hown hK hP 0 rfl rfl 4 (by decide) (hts _ wd102) (fun _ h9 => h9) rfl dX2_writeStuffedIfDue_1 ?_
  have hPc := hP.sub (ws' := [(og, .inr (1, [.ref ow, .int st, .int sib, .int tw.1, .int tw.2.1, .int tw.2.2.1, .int tw.2.2.2])), (ow, .inr (0, [.int lf, .ref oaw, .int wr.2])), (oaw, .inl (cIw, 600, .inl wr.1))]) [3, 1, 2] rfl
  have hKc := hK.sub (tys' := [(cIw, .int)]) [0] rfl
  refine vp_callSi (va_Run.run (va_runV (As := []) (rest := []) ⟨hx, hb, hml, hown, hts⟩ (mX1_isStuffedDue l dC dI cIw og ow oaw st sib lf tw wr) (cwV 0 hts (gV wd142 wd143 wd144 wd29 wd145) rfl rfl rfl (by decide +kernel) ⟨Nat.le_of_ble_eq_true rfl, Nat.le_of_ble_eq_true rfl⟩) ⟨fb_ro, va_recv hKc hPc (ci := 1) (q0 := 0) rfl rfl, pre_ro hPc hKc hZ⟩ rfl rfl hl.1 rfl (lv_room (Nat.le_of_ble_eq_true rfl)) dX2_writeStuffedIfDue_4 ⟨Nat.le_of_ble_eq_true rfl, Nat.le_of_ble_eq_true rfl⟩)) (fun r_1 hw_2 => ?_)
  refine lv_if_eq (tgt := 32) hx hb dX2_writeStuffedIfDue_7 (by decide) (fun c_7 => ?_) (fun c_7 => ?_)
  · have hP9 := hP.sub (ws' := [(ox, .inr (2, [.int st, .int lf, .int ao, .ref ow, .ref og, .ref oc, .ref od, .int bad])), (ow, .inr (0, [.int lf, .ref oaw, .int wr.2])), (oaw, .inl (cIw, 600, .inl wr.1)), (og, .inr (1, [.ref ow, .int st, .int sib, .int tw.1, .int tw.2.1, .int tw.2.2.1, .int tw.2.2.2])), (oc, .inr (0, [.int lf, .ref oac, .int cr.2])), (oac, .inl (cIc, 600, .inl cr.1)), (od, .inr (1, [.ref oc, .int st, .int sib, .int tr.1, .int tr.2.1, .int tr.2.2.1, .int tr.2.2.2]))]) [0, 1, 2, 3, 4, 5, 6] rfl
    have hD9 := hD.sub (ws' := [(ox, .inr (2, [.int st, .int lf, .int ao, .ref ow, .ref og, .ref oc, .ref od, .int bad])), (ow, .inr (0, [.int lf, .ref oaw, .int wr.2])), (oaw, .inl (cIw, 600, .inl wr.1)), (og, .inr (1, [.ref ow, .int st, .int sib, .int tw.1, .int tw.2.1, .int tw.2.2.1, .int tw.2.2.2])), (oc, .inr (0, [.int lf, .ref oac, .int cr.2])), (oac, .inl (cIc, 600, .inl cr.1)), (od, .inr (1, [.ref oc, .int st, .int sib, .int tr.1, .int tr.2.1, .int tr.2.2.1, .int tr.2.2.2]))]) [0, 1, 2, 3, 4, 5, 6] (by decide) rfl
    exact W.vret hx hb hr (fun t ht hW => ⟨⟨(wr, tw), rfl, (plX2_writeStuffedIfDue_0 st lf ao sib wr tw cr tr bad _ hw_2 c_7), by rw [ht]; exact hP9, hD9⟩, hS.F ht⟩) hS.2.2 dX2_writeStuffedIfDue_32
  · refine lv_aload_n hx hb dX2_writeStuffedIfDue_10 rfl (lv_at hl 0 rfl) ?_
    refine va_get (D := (dC, dI)) (ci := 2) (v := .ref ow) (C := RX2) (T := TX2) (N := 8) hx hb hts inGX2 hown hK hP 0 rfl rfl 3 (by decide) (hts _ wd101) (fun _ h9 => h9) rfl dX2_writeStuffedIfDue_11 ?_
    refine lv_aload_n hx hb dX2_writeStuffedIfDue_14 rfl (lv_at hl 0 rfl) ?_
    refine va_get (D := (dC, dI)) (ci := 2) (v := .ref og) (C := RX2) (T := TX2) (N := 8) hx hb hts inGX2 hown hK hP 0 rfl rfl 4 (by decide) (hts _ wd102) (fun _ h9 => h9) rfl dX2_writeStuffedIfDue_15 ?_
    refine va_getN (D := (dC, dI)) (ci := 1) (v := .int tw.1) (C := RX1) (T := TX1) (N := 7) hx hb hts inGX1 hown hK hP 3 rfl rfl 3 (by decide) (hZ.use zw2 rfl) (fun _ h9 => h9) rfl dX2_writeStuffedIfDue_18 ?_
    refine lv_iconst (v := 0) hx hb dX2_writeStuffedIfDue_21 (by decide) ?_
    have hPc := hP.sub (ws' := [(ow, .inr (0, [.int lf, .ref oaw, .int wr.2])), (oaw, .inl (cIw, 600, .inl wr.1))]) [1, 2] rfl
    have hKc := hK.sub (tys' := [(cIw, .int)]) [0] rfl
    have hDc := hD.sub (ws' := [(ow, .inr (0, [.int lf, .ref oaw, .int wr.2])), (oaw, .inl (cIw, 600, .inl wr.1))]) [1, 2] (by decide) rfl
    have hFc := va_free (wc := [(ow, .inr (0, [.int lf, .ref oaw, .int wr.2])), (oaw, .inl (cIw, 600, .inl wr.1))]) hD hS hA [1, 2] rfl
    refine va_callv (va_runV (As := [.int tw.1, .int 0]) (rest := []) ⟨hx, hb, hml, hown, hts⟩ (mX0_setBit l dC dI cIw ow oaw s.heap.size lf wr tw.1 0) (cwV 2 hts (gV wd291 wd292 wd293 wd28 wd294) rfl rfl rfl (by decide +kernel) ⟨Nat.le_of_ble_eq_true rfl, Nat.le_of_ble_eq_true rfl⟩) ⟨fb_rw, va_recv hKc hPc (ci := 0) (q0 := 0) rfl rfl, pre_rw hPc hKc hDc hZ⟩ rfl rfl hl.1 rfl (lv_room (Nat.le_of_ble_eq_true rfl)) dX2_writeStuffedIfDue_22 ⟨Nat.le_of_ble_eq_true rfl, Nat.le_of_ble_eq_true rfl⟩) hS (fun q _ h => hFc q h) hFc (fun u_4 t H1 locs ht hvm hw_3 hB hz1 hk1 hS => ?_)
    obtain ⟨hP1, hD1⟩ := hB
    rw [ht] at hP1
    obtain ⟨hP, hD⟩ := va_join (wr := [(ox, .inr (2, [.int st, .int lf, .int ao, .ref ow, .ref og, .ref oc, .ref od, .int bad])), (og, .inr (1, [.ref ow, .int st, .int sib, .int tw.1, .int tw.2.1, .int tw.2.2.1, .int tw.2.2.2])), (oc, .inr (0, [.int lf, .ref oac, .int cr.2])), (oac, .inl (cIc, 600, .inl cr.1)), (od, .inr (1, [.ref oc, .int st, .int sib, .int tr.1, .int tr.2.1, .int tr.2.2.1, .int tr.2.2.2]))]) (w1 := [(ow, .inr (0, [.int lf, .ref oaw, .int u_4.2])), (oaw, .inl (cIw, 600, .inl u_4.1))]) hP hD [1, 2] [0, 3, 4, 5, 6] rfl rfl (by decide) (by decide) hk1 hFc hP1 hD1
    generalize H1 = H at hP hS ⊢
    have hP : va_P (dC, dI) vwCl [(ox, .inr (2, [.int st, .int lf, .int ao, .ref ow, .ref og, .ref oc, .ref od, .int bad])), (og, .inr (1, [.ref ow, .int st, .int sib, .int tw.1, .int tw.2.1, .int tw.2.2.1, .int tw.2.2.2])), (oc, .inr (0, [.int lf, .ref oac, .int cr.2])), (oac, .inl (cIc, 600, .inl cr.1)), (od, .inr (1, [.ref oc, .int st, .int sib, .int tr.1, .int tr.2.1, .int tr.2.2.1, .int tr.2.2.2])), (ow, .inr (0, [.int lf, .ref oaw, .int u_4.2])), (oaw, .inl (cIw, 600, .inl u_4.1))] H := hP
    have hD : va_D A [(ox, .inr (2, [.int st, .int lf, .int ao, .ref ow, .ref og, .ref oc, .ref od, .int bad])), (og, .inr (1, [.ref ow, .int st, .int sib, .int tw.1, .int tw.2.1, .int tw.2.2.1, .int tw.2.2.2])), (oc, .inr (0, [.int lf, .ref oac, .int cr.2])), (oac, .inl (cIc, 600, .inl cr.1)), (od, .inr (1, [.ref oc, .int st, .int sib, .int tr.1, .int tr.2.1, .int tr.2.2.1, .int tr.2.2.2])), (ow, .inr (0, [.int lf, .ref oaw, .int u_4.2])), (oaw, .inl (cIw, 600, .inl u_4.1))] := hD
    refine lv_aload_n hx hb dX2_writeStuffedIfDue_25 rfl (lv_at hl 0 rfl) ?_
    refine va_get (D := (dC, dI)) (ci := 2) (v := .ref og) (C := RX2) (T := TX2) (N := 8) hx hb hts inGX2 hown hK hP 0 rfl rfl 4 (by decide) (hts _ wd102) (fun _ h9 => h9) rfl dX2_writeStuffedIfDue_26 ?_
    have hPc := hP.sub (ws' := [(og, .inr (1, [.ref ow, .int st, .int sib, .int tw.1, .int tw.2.1, .int tw.2.2.1, .int tw.2.2.2])), (ow, .inr (0, [.int lf, .ref oaw, .int u_4.2])), (oaw, .inl (cIw, 600, .inl u_4.1))]) [1, 5, 6] rfl
    have hKc := hK.sub (tys' := [(cIw, .int)]) [0] rfl
    have hDc := hD.sub (ws' := [(og, .inr (1, [.ref ow, .int st, .int sib, .int tw.1, .int tw.2.1, .int tw.2.2.1, .int tw.2.2.2])), (ow, .inr (0, [.int lf, .ref oaw, .int u_4.2])), (oaw, .inl (cIw, 600, .inl u_4.1))]) [1, 5, 6] (by decide) rfl
    have hFc := va_free (wc := [(og, .inr (1, [.ref ow, .int st, .int sib, .int tw.1, .int tw.2.1, .int tw.2.2.1, .int tw.2.2.2])), (ow, .inr (0, [.int lf, .ref oaw, .int u_4.2])), (oaw, .inl (cIw, 600, .inl u_4.1))]) hD hS hA [1, 5, 6] rfl
    refine va_callv (va_runV (As := []) (rest := []) ⟨hx, hb, hml, hown, hts⟩ (mX1_stepOverStuffed l dC dI cIw og ow oaw H.size st sib lf tw u_4) (cwV 0 hts (gV wd146 wd147 wd148 wd29 wd149) rfl rfl rfl (by decide +kernel) ⟨Nat.le_of_ble_eq_true rfl, Nat.le_of_ble_eq_true rfl⟩) ⟨fb_rw, va_recv hKc hPc (ci := 1) (q0 := 0) rfl rfl, pre_rw hPc hKc hDc hZ⟩ rfl rfl hl.1 rfl (lv_room (Nat.le_of_ble_eq_true rfl)) dX2_writeStuffedIfDue_29 ⟨Nat.le_of_ble_eq_true rfl, Nat.le_of_ble_eq_true rfl⟩) hS (fun q _ h => hFc q h) hFc (fun u_6 t H1 locs ht hvm hw_5 hB hz1 hk1 hS => ?_)
    obtain ⟨hP1, hD1⟩ := hB
    rw [ht] at hP1
    obtain ⟨hP, hD⟩ := va_join (wr := [(ox, .inr (2, [.int st, .int lf, .int ao, .ref ow, .ref og, .ref oc, .ref od, .int bad])), (oc, .inr (0, [.int lf, .ref oac, .int cr.2])), (oac, .inl (cIc, 600, .inl cr.1)), (od, .inr (1, [.ref oc, .int st, .int sib, .int tr.1, .int tr.2.1, .int tr.2.2.1, .int tr.2.2.2]))]) (w1 := [(og, .inr (1, [.ref ow, .int st, .int sib, .int u_6.1, .int u_6.2.1, .int u_6.2.2.1, .int u_6.2.2.2])), (ow, .inr (0, [.int lf, .ref oaw, .int u_4.2])), (oaw, .inl (cIw, 600, .inl u_4.1))]) hP hD [1, 5, 6] [0, 2, 3, 4] rfl rfl (by decide) (by decide) hk1 hFc hP1 hD1
    generalize H1 = H at hP hS ⊢
    have hP : va_P (dC, dI) vwCl [(ox, .inr (2, [.int st, .int lf, .int ao, .ref ow, .ref og, .ref oc, .ref od, .int bad])), (oc, .inr (0, [.int lf, .ref oac, .int cr.2])), (oac, .inl (cIc, 600, .inl cr.1)), (od, .inr (1, [.ref oc, .int st, .int sib, .int tr.1, .int tr.2.1, .int tr.2.2.1, .int tr.2.2.2])), (og, .inr (1, [.ref ow, .int st, .int sib, .int u_6.1, .int u_6.2.1, .int u_6.2.2.1, .int u_6.2.2.2])), (ow, .inr (0, [.int lf, .ref oaw, .int u_4.2])), (oaw, .inl (cIw, 600, .inl u_4.1))] H := hP
    have hD : va_D A [(ox, .inr (2, [.int st, .int lf, .int ao, .ref ow, .ref og, .ref oc, .ref od, .int bad])), (oc, .inr (0, [.int lf, .ref oac, .int cr.2])), (oac, .inl (cIc, 600, .inl cr.1)), (od, .inr (1, [.ref oc, .int st, .int sib, .int tr.1, .int tr.2.1, .int tr.2.2.1, .int tr.2.2.2])), (og, .inr (1, [.ref ow, .int st, .int sib, .int u_6.1, .int u_6.2.1, .int u_6.2.2.1, .int u_6.2.2.2])), (ow, .inr (0, [.int lf, .ref oaw, .int u_4.2])), (oaw, .inl (cIw, 600, .inl u_4.1))] := hD
    have hP9 := hP.sub (ws' := [(ox, .inr (2, [.int st, .int lf, .int ao, .ref ow, .ref og, .ref oc, .ref od, .int bad])), (ow, .inr (0, [.int lf, .ref oaw, .int u_4.2])), (oaw, .inl (cIw, 600, .inl u_4.1)), (og, .inr (1, [.ref ow, .int st, .int sib, .int u_6.1, .int u_6.2.1, .int u_6.2.2.1, .int u_6.2.2.2])), (oc, .inr (0, [.int lf, .ref oac, .int cr.2])), (oac, .inl (cIc, 600, .inl cr.1)), (od, .inr (1, [.ref oc, .int st, .int sib, .int tr.1, .int tr.2.1, .int tr.2.2.1, .int tr.2.2.2]))]) [0, 5, 6, 4, 1, 2, 3] rfl
    have hD9 := hD.sub (ws' := [(ox, .inr (2, [.int st, .int lf, .int ao, .ref ow, .ref og, .ref oc, .ref od, .int bad])), (ow, .inr (0, [.int lf, .ref oaw, .int u_4.2])), (oaw, .inl (cIw, 600, .inl u_4.1)), (og, .inr (1, [.ref ow, .int st, .int sib, .int u_6.1, .int u_6.2.1, .int u_6.2.2.1, .int u_6.2.2.2])), (oc, .inr (0, [.int lf, .ref oac, .int cr.2])), (oac, .inl (cIc, 600, .inl cr.1)), (od, .inr (1, [.ref oc, .int st, .int sib, .int tr.1, .int tr.2.1, .int tr.2.2.1, .int tr.2.2.2]))]) [0, 5, 6, 4, 1, 2, 3] (by decide) rfl
    exact W.vret hx hb hr (fun t ht hW => ⟨⟨(u_4, u_6), rfl, (plX2_writeStuffedIfDue_1 st lf ao sib wr tw cr tr bad _ hw_2 c_7 _ hw_3 _ hw_5), by rw [ht]; exact hP9, hD9⟩, hS.F ht⟩) hS.2.2 dX2_writeStuffedIfDue_32
def FX2_writeBit (st : Int32) (lf : Int32) (ao : Int32) (sib : Int32) (wr : Rw) (tw : Tk) (cr : Rw) (tr : Tk) (bad : Int32) (p0 : Int32) : Rw × Tk :=
  let zhw_1 := FX2_writeStuffedIfDue st lf ao sib wr tw cr tr bad
  let u_2wr := zhw_1.1
  let u_2tw := zhw_1.2
  let u_4 := FX0_setBit lf u_2wr u_2tw.1 p0
  let u_6 := FX1_stepOver st sib lf u_2tw u_4 p0
  if ao = 0 then
    (u_4, u_6)
  else
    let zhw_7 := FX2_writeStuffedIfDue st lf ao sib u_4 u_6 cr tr bad
    let u_8wr := zhw_7.1
    let u_8tw := zhw_7.2
    (u_8wr, u_8tw)
set_option maxRecDepth 100000 in
theorem plX2_writeBit_0 (st : Int32) (lf : Int32) (ao : Int32) (sib : Int32) (wr : Rw) (tw : Tk) (cr : Rw) (tr : Tk) (bad : Int32) (p0 : Int32) (u_2wr : Rw) (u_2tw : Tk) (hw_1 : (u_2wr, u_2tw) = FX2_writeStuffedIfDue st lf ao sib wr tw cr tr bad) (u_4 : Rw) (hw_3 : u_4 = FX0_setBit lf u_2wr u_2tw.1 p0) (u_6 : Tk) (hw_5 : u_6 = FX1_stepOver st sib lf u_2tw u_4 p0) (c_31 : ao = 0) : (u_4, u_6) = FX2_writeBit st lf ao sib wr tw cr tr bad p0 := by
  have q0 := congrArg (fun z => z.1) hw_1
  have q1 := congrArg (fun z => z.2) hw_1
  dsimp only at q0 q1
  subst q0
  subst q1
  clear hw_1
  subst hw_3
  subst hw_5
  exact (if_pos c_31).symm
set_option maxRecDepth 100000 in
theorem plX2_writeBit_1 (st : Int32) (lf : Int32) (ao : Int32) (sib : Int32) (wr : Rw) (tw : Tk) (cr : Rw) (tr : Tk) (bad : Int32) (p0 : Int32) (u_2wr : Rw) (u_2tw : Tk) (hw_1 : (u_2wr, u_2tw) = FX2_writeStuffedIfDue st lf ao sib wr tw cr tr bad) (u_4 : Rw) (hw_3 : u_4 = FX0_setBit lf u_2wr u_2tw.1 p0) (u_6 : Tk) (hw_5 : u_6 = FX1_stepOver st sib lf u_2tw u_4 p0) (c_31 : ¬ (ao = 0)) (u_8wr : Rw) (u_8tw : Tk) (hw_7 : (u_8wr, u_8tw) = FX2_writeStuffedIfDue st lf ao sib u_4 u_6 cr tr bad) : (u_8wr, u_8tw) = FX2_writeBit st lf ao sib wr tw cr tr bad p0 := by
  have q0 := congrArg (fun z => z.1) hw_1
  have q1 := congrArg (fun z => z.2) hw_1
  dsimp only at q0 q1
  subst q0
  subst q1
  clear hw_1
  subst hw_3
  subst hw_5
  have q0 := congrArg (fun z => z.1) hw_7
  have q1 := congrArg (fun z => z.2) hw_7
  dsimp only at q0 q1
  subst q0
  subst q1
  clear hw_7
  exact (if_neg c_31).symm
set_option maxHeartbeats 4000000 in
set_option maxRecDepth 100000 in
theorem mX2_writeBit (l : Launch) (dC : Nat → ClassId) (dI : Nat → Nat → Nat) (cIw cIc : ClassId) (ox ow oaw og oc oac od : Nat) (sz : Nat) (st : Int32) (lf : Int32) (ao : Int32) (sib : Int32) (wr : Rw) (tw : Tk) (cr : Rw) (tr : Tk) (bad : Int32) (p0 : Int32) : Met l yX2_writeBit (Cond.code yX2_writeBit cX2_writeBit 2 none :: G) ({ frames := 4, cells := 0, slots := 0, locals := 82 } : Room) (va_Pc [.ref ox, .int p0] (fun U => U.heap.size = sz ∧ va_P (dC, dI) vwCl [(ox, .inr (2, [.int st, .int lf, .int ao, .ref ow, .ref og, .ref oc, .ref od, .int bad])), (ow, .inr (0, [.int lf, .ref oaw, .int wr.2])), (oaw, .inl (cIw, 600, .inl wr.1)), (og, .inr (1, [.ref ow, .int st, .int sib, .int tw.1, .int tw.2.1, .int tw.2.2.1, .int tw.2.2.2])), (oc, .inr (0, [.int lf, .ref oac, .int cr.2])), (oac, .inl (cIc, 600, .inl cr.1)), (od, .inr (1, [.ref oc, .int st, .int sib, .int tr.1, .int tr.2.1, .int tr.2.2.1, .int tr.2.2.2]))] U.heap ∧ va_K (dC, dI) vwCl [(cIw, .int), (cIc, .int)] U ∧ va_D (fun _ => True) [(ox, .inr (2, [.int st, .int lf, .int ao, .ref ow, .ref og, .ref oc, .ref od, .int bad])), (ow, .inr (0, [.int lf, .ref oaw, .int wr.2])), (oaw, .inl (cIw, 600, .inl wr.1)), (og, .inr (1, [.ref ow, .int st, .int sib, .int tw.1, .int tw.2.1, .int tw.2.2.1, .int tw.2.2.2])), (oc, .inr (0, [.int lf, .ref oac, .int cr.2])), (oac, .inl (cIc, 600, .inl cr.1)), (od, .inr (1, [.ref oc, .int st, .int sib, .int tr.1, .int tr.2.1, .int tr.2.2.1, .int tr.2.2.2]))] ∧ zOk U)) (va_Qv (fun (u : Rw × Tk) => u = (FX2_writeBit st lf ao sib wr tw cr tr bad p0)) (fun (u : Rw × Tk) (t : State) => va_P (dC, dI) vwCl [(ox, .inr (2, [.int st, .int lf, .int ao, .ref ow, .ref og, .ref oc, .ref od, .int bad])), (ow, .inr (0, [.int lf, .ref oaw, .int u.1.2])), (oaw, .inl (cIw, 600, .inl u.1.1)), (og, .inr (1, [.ref ow, .int st, .int sib, .int u.2.1, .int u.2.2.1, .int u.2.2.2.1, .int u.2.2.2.2])), (oc, .inr (0, [.int lf, .ref oac, .int cr.2])), (oac, .inl (cIc, 600, .inl cr.1)), (od, .inr (1, [.ref oc, .int st, .int sib, .int tr.1, .int tr.2.1, .int tr.2.2.1, .int tr.2.2.2]))] t.heap ∧ va_D (va_A [(ox, .inr (2, [.int st, .int lf, .int ao, .ref ow, .ref og, .ref oc, .ref od, .int bad])), (ow, .inr (0, [.int lf, .ref oaw, .int wr.2])), (oaw, .inl (cIw, 600, .inl wr.1)), (og, .inr (1, [.ref ow, .int st, .int sib, .int tw.1, .int tw.2.1, .int tw.2.2.1, .int tw.2.2.2])), (oc, .inr (0, [.int lf, .ref oac, .int cr.2])), (oac, .inl (cIc, 600, .inl cr.1)), (od, .inr (1, [.ref oc, .int st, .int sib, .int tr.1, .int tr.2.1, .int tr.2.2.1, .int tr.2.2.2]))] sz) [(ox, .inr (2, [.int st, .int lf, .int ao, .ref ow, .ref og, .ref oc, .ref od, .int bad])), (ow, .inr (0, [.int lf, .ref oaw, .int u.1.2])), (oaw, .inl (cIw, 600, .inl u.1.1)), (og, .inr (1, [.ref ow, .int st, .int sib, .int u.2.1, .int u.2.2.1, .int u.2.2.2.1, .int u.2.2.2.2])), (oc, .inr (0, [.int lf, .ref oac, .int cr.2])), (oac, .inl (cIc, 600, .inl cr.1)), (od, .inr (1, [.ref oc, .int st, .int sib, .int tr.1, .int tr.2.1, .int tr.2.2.1, .int tr.2.2.2]))]) (va_A [(ox, .inr (2, [.int st, .int lf, .int ao, .ref ow, .ref og, .ref oc, .ref od, .int bad])), (ow, .inr (0, [.int lf, .ref oaw, .int wr.2])), (oaw, .inl (cIw, 600, .inl wr.1)), (og, .inr (1, [.ref ow, .int st, .int sib, .int tw.1, .int tw.2.1, .int tw.2.2.1, .int tw.2.2.2])), (oc, .inr (0, [.int lf, .ref oac, .int cr.2])), (oac, .inl (cIc, 600, .inl cr.1)), (od, .inr (1, [.ref oc, .int st, .int sib, .int tr.1, .int tr.2.1, .int tr.2.2.1, .int tr.2.2.2]))] sz)) 0 0 (va_A [(ox, .inr (2, [.int st, .int lf, .int ao, .ref ow, .ref og, .ref oc, .ref od, .int bad])), (ow, .inr (0, [.int lf, .ref oaw, .int wr.2])), (oaw, .inl (cIw, 600, .inl wr.1)), (og, .inr (1, [.ref ow, .int st, .int sib, .int tw.1, .int tw.2.1, .int tw.2.2.1, .int tw.2.2.2])), (oc, .inr (0, [.int lf, .ref oac, .int cr.2])), (oac, .inl (cIc, 600, .inl cr.1)), (od, .inr (1, [.ref oc, .int st, .int sib, .int tr.1, .int tr.2.1, .int tr.2.2.1, .int tr.2.2.2]))] sz) := by
  refine Met.ofW (cc := cX2_writeBit) (maxL := 2) (ret := none) (by decide) rfl ?_
  intro p e s m args below meth c s₁ B hml hv
  obtain ⟨rfl, hsz, hP, hK, hD0, hZ⟩ := hv
  have hx := B.exec
  have hb := B.bytes
  have hr := B.returns
  have hts : ∀ w ∈ G, w.before [.ref ox, .int p0].toArray s = true := fun w h => atoms_spec (ws := (Cond.code yX2_writeBit cX2_writeBit 2 none :: G)) B.pre w (List.mem_cons_of_mem _ h)
  have hown : s.vm.findClass RX2 = some m.cls := findClass_of_methodNamed B.named
  have hlocks := B.notSynchronized
  subst hsz
  have hD := hD0.self (sz := s.heap.size)
  generalize hAe : va_A [(ox, .inr (2, [.int st, .int lf, .int ao, .ref ow, .ref og, .ref oc, .ref od, .int bad])), (ow, .inr (0, [.int lf, .ref oaw, .int wr.2])), (oaw, .inl (cIw, 600, .inl wr.1)), (og, .inr (1, [.ref ow, .int st, .int sib, .int tw.1, .int tw.2.1, .int tw.2.2.1, .int tw.2.2.2])), (oc, .inr (0, [.int lf, .ref oac, .int cr.2])), (oac, .inl (cIc, 600, .inl cr.1)), (od, .inr (1, [.ref oc, .int st, .int sib, .int tr.1, .int tr.2.1, .int tr.2.2.1, .int tr.2.2.2]))] s.heap.size = A at hD ⊢
  have hA : ∀ q : Nat, s.heap.size ≤ q → A q := fun q h => by rw [← hAe]; exact Or.inr h
  have hS : va_S A s.heap s.heap [] := va_S.rf
  have hP : va_P (dC, dI) vwCl [(ox, .inr (2, [.int st, .int lf, .int ao, .ref ow, .ref og, .ref oc, .ref od, .int bad])), (ow, .inr (0, [.int lf, .ref oaw, .int wr.2])), (oaw, .inl (cIw, 600, .inl wr.1)), (og, .inr (1, [.ref ow, .int st, .int sib, .int tw.1, .int tw.2.1, .int tw.2.2.1, .int tw.2.2.2])), (oc, .inr (0, [.int lf, .ref oac, .int cr.2])), (oac, .inl (cIc, 600, .inl cr.1)), (od, .inr (1, [.ref oc, .int st, .int sib, .int tr.1, .int tr.2.1, .int tr.2.2.1, .int tr.2.2.2]))] s.heap := hP
  have hl := lv_entry ([.ref ox, .int p0]) (n := 2) (Nat.le_of_ble_eq_true rfl)
  rw [lg_entry_eq]
  generalize (lg_sl ([.ref ox, .int p0]) ++ List.replicate (2 - (lg_sl ([.ref ox, .int p0])).length) Slot.unset).toArray = ls at hl ⊢
  have hl : lv_has ls 2 [(0, .ref ox), (1, .int p0)] := hl
  refine lv_aload_n hx hb dX2_writeBit_0 rfl (lv_at hl 0 rfl) ?_
  have hPc := hP.sub (ws' := [(ox, .inr (2, [.int st, .int lf, .int ao, .ref ow, .ref og, .ref oc, .ref od, .int bad])), (ow, .inr (0, [.int lf, .ref oaw, .int wr.2])), (oaw, .inl (cIw, 600, .inl wr.1)), (og, .inr (1, [.ref ow, .int st, .int sib, .int tw.1, .int tw.2.1, .int tw.2.2.1, .int tw.2.2.2])), (oc, .inr (0, [.int lf, .ref oac, .int cr.2])), (oac, .inl (cIc, 600, .inl cr.1)), (od, .inr (1, [.ref oc, .int st, .int sib, .int tr.1, .int tr.2.1, .int tr.2.2.1, .int tr.2.2.2]))]) [0, 1, 2, 3, 4, 5, 6] rfl
  have hKc := hK.sub (tys' := [(cIw, .int), (cIc, .int)]) [0, 1] rfl
  have hDc := hD.sub (ws' := [(ox, .inr (2, [.int st, .int lf, .int ao, .ref ow, .ref og, .ref oc, .ref od, .int bad])), (ow, .inr (0, [.int lf, .ref oaw, .int wr.2])), (oaw, .inl (cIw, 600, .inl wr.1)), (og, .inr (1, [.ref ow, .int st, .int sib, .int tw.1, .int tw.2.1, .int tw.2.2.1, .int tw.2.2.2])), (oc, .inr (0, [.int lf, .ref oac, .int cr.2])), (oac, .inl (cIc, 600, .inl cr.1)), (od, .inr (1, [.ref oc, .int st, .int sib, .int tr.1, .int tr.2.1, .int tr.2.2.1, .int tr.2.2.2]))]) [0, 1, 2, 3, 4, 5, 6] (by decide) rfl
  have hFc := va_free (wc := [(ox, .inr (2, [.int st, .int lf, .int ao, .ref ow, .ref og, .ref oc, .ref od, .int bad])), (ow, .inr (0, [.int lf, .ref oaw, .int wr.2])), (oaw, .inl (cIw, 600, .inl wr.1)), (og, .inr (1, [.ref ow, .int st, .int sib, .int tw.1, .int tw.2.1, .int tw.2.2.1, .int tw.2.2.2])), (oc, .inr (0, [.int lf, .ref oac, .int cr.2])), (oac, .inl (cIc, 600, .inl cr.1)), (od, .inr (1, [.ref oc, .int st, .int sib, .int tr.1, .int tr.2.1, .int tr.2.2.1, .int tr.2.2.2]))]) hD hS hA [0, 1, 2, 3, 4, 5, 6] rfl
  refine va_callv (va_runV (As := []) (rest := []) ⟨hx, hb, hml, hown, hts⟩ (mX2_writeStuffedIfDue l dC dI cIw cIc ox ow oaw og oc oac od s.heap.size st lf ao sib wr tw cr tr bad) (cwV 0 hts (gV wd288 wd289 wd3 wd26 wd290) rfl rfl rfl (by decide +kernel) ⟨Nat.le_of_ble_eq_true rfl, Nat.le_of_ble_eq_true rfl⟩) ⟨fb_rw, va_recv hKc hPc (ci := 2) (q0 := 0) rfl rfl, pre_rw hPc hKc hDc hZ⟩ rfl rfl hl.1 rfl (lv_room (Nat.le_of_ble_eq_true rfl)) dX2_writeBit_1 ⟨Nat.le_of_ble_eq_true rfl, Nat.le_of_ble_eq_true rfl⟩) hS (fun q _ h => hFc q h) hFc (fun u_2 t H1 locs ht hvm hw_1 hB hz1 hk1 hS => ?_)
  obtain ⟨u_2wr, u_2tw⟩ := u_2
  obtain ⟨hP1, hD1⟩ := hB
  rw [ht] at hP1
  obtain ⟨hP, hD⟩ := va_join (wr := []) (w1 := [(ox, .inr (2, [.int st, .int lf, .int ao, .ref ow, .ref og, .ref oc, .ref od, .int bad])), (ow, .inr (0, [.int lf, .ref oaw, .int u_2wr.2])), (oaw, .inl (cIw, 600, .inl u_2wr.1)), (og, .inr (1, [.ref ow, .int st, .int sib, .int u_2tw.1, .int u_2tw.2.1, .int u_2tw.2.2.1, .int u_2tw.2.2.2])), (oc, .inr (0, [.int lf, .ref oac, .int cr.2])), (oac, .inl (cIc, 600, .inl cr.1)), (od, .inr (1, [.ref oc, .int st, .int sib, .int tr.1, .int tr.2.1, .int tr.2.2.1, .int tr.2.2.2]))]) hP hD [0, 1, 2, 3, 4, 5, 6] [] rfl rfl (by decide) (by decide) hk1 hFc hP1 hD1
  generalize H1 = H at hP hS ⊢
  have hP : va_P (dC, dI) vwCl [(ox, .inr (2, [.int st, .int lf, .int ao, .ref ow, .ref og, .ref oc, .ref od, .int bad])), (ow, .inr (0, [.int lf, .ref oaw, .int u_2wr.2])), (oaw, .inl (cIw, 600, .inl u_2wr.1)), (og, .inr (1, [.ref ow, .int st, .int sib, .int u_2tw.1, .int u_2tw.2.1, .int u_2tw.2.2.1, .int u_2tw.2.2.2])), (oc, .inr (0, [.int lf, .ref oac, .int cr.2])), (oac, .inl (cIc, 600, .inl cr.1)), (od, .inr (1, [.ref oc, .int st, .int sib, .int tr.1, .int tr.2.1, .int tr.2.2.1, .int tr.2.2.2]))] H := hP
  have hD : va_D A [(ox, .inr (2, [.int st, .int lf, .int ao, .ref ow, .ref og, .ref oc, .ref od, .int bad])), (ow, .inr (0, [.int lf, .ref oaw, .int u_2wr.2])), (oaw, .inl (cIw, 600, .inl u_2wr.1)), (og, .inr (1, [.ref ow, .int st, .int sib, .int u_2tw.1, .int u_2tw.2.1, .int u_2tw.2.2.1, .int u_2tw.2.2.2])), (oc, .inr (0, [.int lf, .ref oac, .int cr.2])), (oac, .inl (cIc, 600, .inl cr.1)), (od, .inr (1, [.ref oc, .int st, .int sib, .int tr.1, .int tr.2.1, .int tr.2.2.1, .int tr.2.2.2]))] := hD
  refine lv_aload_n hx hb dX2_writeBit_4 rfl (lv_at hl 0 rfl) ?_
  refine va_get (D := (dC, dI)) (ci := 2) (v := .ref ow) (C := RX2) (T := TX2) (N := 8) hx hb hts inGX2 hown hK hP 0 rfl rfl 3 (by decide) (hts _ wd101) (fun _ h9 => h9) rfl dX2_writeBit_5 ?_
  refine lv_aload_n hx hb dX2_writeBit_8 rfl (lv_at hl 0 rfl) ?_
  refine va_get (D := (dC, dI)) (ci := 2) (v := .ref og) (C := RX2) (T := TX2) (N := 8) hx hb hts inGX2 hown hK hP 0 rfl rfl 4 (by decide) (hts _ wd102) (fun _ h9 => h9) rfl dX2_writeBit_9 ?_
  refine va_getN (D := (dC, dI)) (ci := 1) (v := .int u_2tw.1) (C := RX1) (T := TX1) (N := 7) hx hb hts inGX1 hown hK hP 3 rfl rfl 3 (by decide) (hZ.use zw2 rfl) (fun _ h9 => h9) rfl dX2_writeBit_12 ?_
  refine lv_iload_n hx hb dX2_writeBit_15 rfl (lv_at hl 1 rfl) ?_
  have hPc := hP.sub (ws' := [(ow, .inr (0, [.int lf, .ref oaw, .int u_2wr.2])), (oaw, .inl (cIw, 600, .inl u_2wr.1))]) [1, 2] rfl
  have hKc := hK.sub (tys' := [(cIw, .int)]) [0] rfl
  have hDc := hD.sub (ws' := [(ow, .inr (0, [.int lf, .ref oaw, .int u_2wr.2])), (oaw, .inl (cIw, 600, .inl u_2wr.1))]) [1, 2] (by decide) rfl
  have hFc := va_free (wc := [(ow, .inr (0, [.int lf, .ref oaw, .int u_2wr.2])), (oaw, .inl (cIw, 600, .inl u_2wr.1))]) hD hS hA [1, 2] rfl
  refine va_callv (va_runV (As := [.int u_2tw.1, .int p0]) (rest := []) ⟨hx, hb, hml, hown, hts⟩ (mX0_setBit l dC dI cIw ow oaw H.size lf u_2wr u_2tw.1 p0) (cwV 2 hts (gV wd291 wd292 wd293 wd28 wd294) rfl rfl rfl (by decide +kernel) ⟨Nat.le_of_ble_eq_true rfl, Nat.le_of_ble_eq_true rfl⟩) ⟨fb_rw, va_recv hKc hPc (ci := 0) (q0 := 0) rfl rfl, pre_rw hPc hKc hDc hZ⟩ rfl rfl hl.1 rfl (lv_room (Nat.le_of_ble_eq_true rfl)) dX2_writeBit_16 ⟨Nat.le_of_ble_eq_true rfl, Nat.le_of_ble_eq_true rfl⟩) hS (fun q _ h => hFc q h) hFc (fun u_4 t H1 locs ht hvm hw_3 hB hz1 hk1 hS => ?_)
  obtain ⟨hP1, hD1⟩ := hB
  rw [ht] at hP1
  obtain ⟨hP, hD⟩ := va_join (wr := [(ox, .inr (2, [.int st, .int lf, .int ao, .ref ow, .ref og, .ref oc, .ref od, .int bad])), (og, .inr (1, [.ref ow, .int st, .int sib, .int u_2tw.1, .int u_2tw.2.1, .int u_2tw.2.2.1, .int u_2tw.2.2.2])), (oc, .inr (0, [.int lf, .ref oac, .int cr.2])), (oac, .inl (cIc, 600, .inl cr.1)), (od, .inr (1, [.ref oc, .int st, .int sib, .int tr.1, .int tr.2.1, .int tr.2.2.1, .int tr.2.2.2]))]) (w1 := [(ow, .inr (0, [.int lf, .ref oaw, .int u_4.2])), (oaw, .inl (cIw, 600, .inl u_4.1))]) hP hD [1, 2] [0, 3, 4, 5, 6] rfl rfl (by decide) (by decide) hk1 hFc hP1 hD1
  generalize H1 = H at hP hS ⊢
  have hP : va_P (dC, dI) vwCl [(ox, .inr (2, [.int st, .int lf, .int ao, .ref ow, .ref og, .ref oc, .ref od, .int bad])), (og, .inr (1, [.ref ow, .int st, .int sib, .int u_2tw.1, .int u_2tw.2.1, .int u_2tw.2.2.1, .int u_2tw.2.2.2])), (oc, .inr (0, [.int lf, .ref oac, .int cr.2])), (oac, .inl (cIc, 600, .inl cr.1)), (od, .inr (1, [.ref oc, .int st, .int sib, .int tr.1, .int tr.2.1, .int tr.2.2.1, .int tr.2.2.2])), (ow, .inr (0, [.int lf, .ref oaw, .int u_4.2])), (oaw, .inl (cIw, 600, .inl u_4.1))] H := hP
  have hD : va_D A [(ox, .inr (2, [.int st, .int lf, .int ao, .ref ow, .ref og, .ref oc, .ref od, .int bad])), (og, .inr (1, [.ref ow, .int st, .int sib, .int u_2tw.1, .int u_2tw.2.1, .int u_2tw.2.2.1, .int u_2tw.2.2.2])), (oc, .inr (0, [.int lf, .ref oac, .int cr.2])), (oac, .inl (cIc, 600, .inl cr.1)), (od, .inr (1, [.ref oc, .int st, .int sib, .int tr.1, .int tr.2.1, .int tr.2.2.1, .int tr.2.2.2])), (ow, .inr (0, [.int lf, .ref oaw, .int u_4.2])), (oaw, .inl (cIw, 600, .inl u_4.1))] := hD
  refine lv_aload_n hx hb dX2_writeBit_19 rfl (lv_at hl 0 rfl) ?_
  refine va_get (D := (dC, dI)) (ci := 2) (v := .ref og) (C := RX2) (T := TX2) (N := 8) hx hb hts inGX2 hown hK hP 0 rfl rfl 4 (by decide) (hts _ wd102) (fun _ h9 => h9) rfl dX2_writeBit_20 ?_
  refine lv_iload_n hx hb dX2_writeBit_23 rfl (lv_at hl 1 rfl) ?_
  have hPc := hP.sub (ws' := [(og, .inr (1, [.ref ow, .int st, .int sib, .int u_2tw.1, .int u_2tw.2.1, .int u_2tw.2.2.1, .int u_2tw.2.2.2])), (ow, .inr (0, [.int lf, .ref oaw, .int u_4.2])), (oaw, .inl (cIw, 600, .inl u_4.1))]) [1, 5, 6] rfl
  have hKc := hK.sub (tys' := [(cIw, .int)]) [0] rfl
  have hDc := hD.sub (ws' := [(og, .inr (1, [.ref ow, .int st, .int sib, .int u_2tw.1, .int u_2tw.2.1, .int u_2tw.2.2.1, .int u_2tw.2.2.2])), (ow, .inr (0, [.int lf, .ref oaw, .int u_4.2])), (oaw, .inl (cIw, 600, .inl u_4.1))]) [1, 5, 6] (by decide) rfl
  have hFc := va_free (wc := [(og, .inr (1, [.ref ow, .int st, .int sib, .int u_2tw.1, .int u_2tw.2.1, .int u_2tw.2.2.1, .int u_2tw.2.2.2])), (ow, .inr (0, [.int lf, .ref oaw, .int u_4.2])), (oaw, .inl (cIw, 600, .inl u_4.1))]) hD hS hA [1, 5, 6] rfl
  refine va_callv (va_runV (As := [.int p0]) (rest := []) ⟨hx, hb, hml, hown, hts⟩ (mX1_stepOver l dC dI cIw og ow oaw H.size st sib lf u_2tw u_4 p0) (cwV 1 hts (gV wd158 wd159 wd160 wd29 wd161) rfl rfl rfl (by decide +kernel) ⟨Nat.le_of_ble_eq_true rfl, Nat.le_of_ble_eq_true rfl⟩) ⟨fb_rw, va_recv hKc hPc (ci := 1) (q0 := 0) rfl rfl, pre_rw hPc hKc hDc hZ⟩ rfl rfl hl.1 rfl (lv_room (Nat.le_of_ble_eq_true rfl)) dX2_writeBit_24 ⟨Nat.le_of_ble_eq_true rfl, Nat.le_of_ble_eq_true rfl⟩) hS (fun q _ h => hFc q h) hFc (fun u_6 t H1 locs ht hvm hw_5 hB hz1 hk1 hS => ?_)
  obtain ⟨hP1, hD1⟩ := hB
  rw [ht] at hP1
  obtain ⟨hP, hD⟩ := va_join (wr := [(ox, .inr (2, [.int st, .int lf, .int ao, .ref ow, .ref og, .ref oc, .ref od, .int bad])), (oc, .inr (0, [.int lf, .ref oac, .int cr.2])), (oac, .inl (cIc, 600, .inl cr.1)), (od, .inr (1, [.ref oc, .int st, .int sib, .int tr.1, .int tr.2.1, .int tr.2.2.1, .int tr.2.2.2]))]) (w1 := [(og, .inr (1, [.ref ow, .int st, .int sib, .int u_6.1, .int u_6.2.1, .int u_6.2.2.1, .int u_6.2.2.2])), (ow, .inr (0, [.int lf, .ref oaw, .int u_4.2])), (oaw, .inl (cIw, 600, .inl u_4.1))]) hP hD [1, 5, 6] [0, 2, 3, 4] rfl rfl (by decide) (by decide) hk1 hFc hP1 hD1
  generalize H1 = H at hP hS ⊢
  have hP : va_P (dC, dI) vwCl [(ox, .inr (2, [.int st, .int lf, .int ao, .ref ow, .ref og, .ref oc, .ref od, .int bad])), (oc, .inr (0, [.int lf, .ref oac, .int cr.2])), (oac, .inl (cIc, 600, .inl cr.1)), (od, .inr (1, [.ref oc, .int st, .int sib, .int tr.1, .int tr.2.1, .int tr.2.2.1, .int tr.2.2.2])), (og, .inr (1, [.ref ow, .int st, .int sib, .int u_6.1, .int u_6.2.1, .int u_6.2.2.1, .int u_6.2.2.2])), (ow, .inr (0, [.int lf, .ref oaw, .int u_4.2])), (oaw, .inl (cIw, 600, .inl u_4.1))] H := hP
  have hD : va_D A [(ox, .inr (2, [.int st, .int lf, .int ao, .ref ow, .ref og, .ref oc, .ref od, .int bad])), (oc, .inr (0, [.int lf, .ref oac, .int cr.2])), (oac, .inl (cIc, 600, .inl cr.1)), (od, .inr (1, [.ref oc, .int st, .int sib, .int tr.1, .int tr.2.1, .int tr.2.2.1, .int tr.2.2.2])), (og, .inr (1, [.ref ow, .int st, .int sib, .int u_6.1, .int u_6.2.1, .int u_6.2.2.1, .int u_6.2.2.2])), (ow, .inr (0, [.int lf, .ref oaw, .int u_4.2])), (oaw, .inl (cIw, 600, .inl u_4.1))] := hD
  refine lv_aload_n hx hb dX2_writeBit_27 rfl (lv_at hl 0 rfl) ?_
  refine va_get (D := (dC, dI)) (ci := 2) (v := .int ao) (C := RX2) (T := TX2) (N := 8) hx hb hts inGX2 hown hK hP 0 rfl rfl 2 (by decide) (hts _ wd100) (fun _ h9 => h9) rfl dX2_writeBit_28 ?_
  refine lv_if_eq (tgt := 38) hx hb dX2_writeBit_31 (by decide) (fun c_31 => ?_) (fun c_31 => ?_)
  · have hP9 := hP.sub (ws' := [(ox, .inr (2, [.int st, .int lf, .int ao, .ref ow, .ref og, .ref oc, .ref od, .int bad])), (ow, .inr (0, [.int lf, .ref oaw, .int u_4.2])), (oaw, .inl (cIw, 600, .inl u_4.1)), (og, .inr (1, [.ref ow, .int st, .int sib, .int u_6.1, .int u_6.2.1, .int u_6.2.2.1, .int u_6.2.2.2])), (oc, .inr (0, [.int lf, .ref oac, .int cr.2])), (oac, .inl (cIc, 600, .inl cr.1)), (od, .inr (1, [.ref oc, .int st, .int sib, .int tr.1, .int tr.2.1, .int tr.2.2.1, .int tr.2.2.2]))]) [0, 5, 6, 4, 1, 2, 3] rfl
    have hD9 := hD.sub (ws' := [(ox, .inr (2, [.int st, .int lf, .int ao, .ref ow, .ref og, .ref oc, .ref od, .int bad])), (ow, .inr (0, [.int lf, .ref oaw, .int u_4.2])), (oaw, .inl (cIw, 600, .inl u_4.1)), (og, .inr (1, [.ref ow, .int st, .int sib, .int u_6.1, .int u_6.2.1, .int u_6.2.2.1, .int u_6.2.2.2])), (oc, .inr (0, [.int lf, .ref oac, .int cr.2])), (oac, .inl (cIc, 600, .inl cr.1)), (od, .inr (1, [.ref oc, .int st, .int sib, .int tr.1, .int tr.2.1, .int tr.2.2.1, .int tr.2.2.2]))]) [0, 5, 6, 4, 1, 2, 3] (by decide) rfl
    exact W.vret hx hb hr (fun t ht hW => ⟨⟨(u_4, u_6), rfl, (plX2_writeBit_0 st lf ao sib wr tw cr tr bad p0 _ _ hw_1 _ hw_3 _ hw_5 c_31), by rw [ht]; exact hP9, hD9⟩, hS.F ht⟩) hS.2.2 dX2_writeBit_38
  · refine lv_aload_n hx hb dX2_writeBit_34 rfl (lv_at hl 0 rfl) ?_
    have hPc := hP.sub (ws' := [(ox, .inr (2, [.int st, .int lf, .int ao, .ref ow, .ref og, .ref oc, .ref od, .int bad])), (ow, .inr (0, [.int lf, .ref oaw, .int u_4.2])), (oaw, .inl (cIw, 600, .inl u_4.1)), (og, .inr (1, [.ref ow, .int st, .int sib, .int u_6.1, .int u_6.2.1, .int u_6.2.2.1, .int u_6.2.2.2])), (oc, .inr (0, [.int lf, .ref oac, .int cr.2])), (oac, .inl (cIc, 600, .inl cr.1)), (od, .inr (1, [.ref oc, .int st, .int sib, .int tr.1, .int tr.2.1, .int tr.2.2.1, .int tr.2.2.2]))]) [0, 5, 6, 4, 1, 2, 3] rfl
    have hKc := hK.sub (tys' := [(cIw, .int), (cIc, .int)]) [0, 1] rfl
    have hDc := hD.sub (ws' := [(ox, .inr (2, [.int st, .int lf, .int ao, .ref ow, .ref og, .ref oc, .ref od, .int bad])), (ow, .inr (0, [.int lf, .ref oaw, .int u_4.2])), (oaw, .inl (cIw, 600, .inl u_4.1)), (og, .inr (1, [.ref ow, .int st, .int sib, .int u_6.1, .int u_6.2.1, .int u_6.2.2.1, .int u_6.2.2.2])), (oc, .inr (0, [.int lf, .ref oac, .int cr.2])), (oac, .inl (cIc, 600, .inl cr.1)), (od, .inr (1, [.ref oc, .int st, .int sib, .int tr.1, .int tr.2.1, .int tr.2.2.1, .int tr.2.2.2]))]) [0, 5, 6, 4, 1, 2, 3] (by decide) rfl
    have hFc := va_free (wc := [(ox, .inr (2, [.int st, .int lf, .int ao, .ref ow, .ref og, .ref oc, .ref od, .int bad])), (ow, .inr (0, [.int lf, .ref oaw, .int u_4.2])), (oaw, .inl (cIw, 600, .inl u_4.1)), (og, .inr (1, [.ref ow, .int st, .int sib, .int u_6.1, .int u_6.2.1, .int u_6.2.2.1, .int u_6.2.2.2])), (oc, .inr (0, [.int lf, .ref oac, .int cr.2])), (oac, .inl (cIc, 600, .inl cr.1)), (od, .inr (1, [.ref oc, .int st, .int sib, .int tr.1, .int tr.2.1, .int tr.2.2.1, .int tr.2.2.2]))]) hD hS hA [0, 5, 6, 4, 1, 2, 3] rfl
    refine va_callv (va_runV (As := []) (rest := []) ⟨hx, hb, hml, hown, hts⟩ (mX2_writeStuffedIfDue l dC dI cIw cIc ox ow oaw og oc oac od H.size st lf ao sib u_4 u_6 cr tr bad) (cwV 0 hts (gV wd288 wd289 wd3 wd26 wd290) rfl rfl rfl (by decide +kernel) ⟨Nat.le_of_ble_eq_true rfl, Nat.le_of_ble_eq_true rfl⟩) ⟨fb_rw, va_recv hKc hPc (ci := 2) (q0 := 0) rfl rfl, pre_rw hPc hKc hDc hZ⟩ rfl rfl hl.1 rfl (lv_room (Nat.le_of_ble_eq_true rfl)) dX2_writeBit_35 ⟨Nat.le_of_ble_eq_true rfl, Nat.le_of_ble_eq_true rfl⟩) hS (fun q _ h => hFc q h) hFc (fun u_8 t H1 locs ht hvm hw_7 hB hz1 hk1 hS => ?_)
    obtain ⟨u_8wr, u_8tw⟩ := u_8
    obtain ⟨hP1, hD1⟩ := hB
    rw [ht] at hP1
    obtain ⟨hP, hD⟩ := va_join (wr := []) (w1 := [(ox, .inr (2, [.int st, .int lf, .int ao, .ref ow, .ref og, .ref oc, .ref od, .int bad])), (ow, .inr (0, [.int lf, .ref oaw, .int u_8wr.2])), (oaw, .inl (cIw, 600, .inl u_8wr.1)), (og, .inr (1, [.ref ow, .int st, .int sib, .int u_8tw.1, .int u_8tw.2.1, .int u_8tw.2.2.1, .int u_8tw.2.2.2])), (oc, .inr (0, [.int lf, .ref oac, .int cr.2])), (oac, .inl (cIc, 600, .inl cr.1)), (od, .inr (1, [.ref oc, .int st, .int sib, .int tr.1, .int tr.2.1, .int tr.2.2.1, .int tr.2.2.2]))]) hP hD [0, 5, 6, 4, 1, 2, 3] [] rfl rfl (by decide) (by decide) hk1 hFc hP1 hD1
    generalize H1 = H at hP hS ⊢
    have hP : va_P (dC, dI) vwCl [(ox, .inr (2, [.int st, .int lf, .int ao, .ref ow, .ref og, .ref oc, .ref od, .int bad])), (ow, .inr (0, [.int lf, .ref oaw, .int u_8wr.2])), (oaw, .inl (cIw, 600, .inl u_8wr.1)), (og, .inr (1, [.ref ow, .int st, .int sib, .int u_8tw.1, .int u_8tw.2.1, .int u_8tw.2.2.1, .int u_8tw.2.2.2])), (oc, .inr (0, [.int lf, .ref oac, .int cr.2])), (oac, .inl (cIc, 600, .inl cr.1)), (od, .inr (1, [.ref oc, .int st, .int sib, .int tr.1, .int tr.2.1, .int tr.2.2.1, .int tr.2.2.2]))] H := hP
    have hD : va_D A [(ox, .inr (2, [.int st, .int lf, .int ao, .ref ow, .ref og, .ref oc, .ref od, .int bad])), (ow, .inr (0, [.int lf, .ref oaw, .int u_8wr.2])), (oaw, .inl (cIw, 600, .inl u_8wr.1)), (og, .inr (1, [.ref ow, .int st, .int sib, .int u_8tw.1, .int u_8tw.2.1, .int u_8tw.2.2.1, .int u_8tw.2.2.2])), (oc, .inr (0, [.int lf, .ref oac, .int cr.2])), (oac, .inl (cIc, 600, .inl cr.1)), (od, .inr (1, [.ref oc, .int st, .int sib, .int tr.1, .int tr.2.1, .int tr.2.2.1, .int tr.2.2.2]))] := hD
    have hP9 := hP.sub (ws' := [(ox, .inr (2, [.int st, .int lf, .int ao, .ref ow, .ref og, .ref oc, .ref od, .int bad])), (ow, .inr (0, [.int lf, .ref oaw, .int u_8wr.2])), (oaw, .inl (cIw, 600, .inl u_8wr.1)), (og, .inr (1, [.ref ow, .int st, .int sib, .int u_8tw.1, .int u_8tw.2.1, .int u_8tw.2.2.1, .int u_8tw.2.2.2])), (oc, .inr (0, [.int lf, .ref oac, .int cr.2])), (oac, .inl (cIc, 600, .inl cr.1)), (od, .inr (1, [.ref oc, .int st, .int sib, .int tr.1, .int tr.2.1, .int tr.2.2.1, .int tr.2.2.2]))]) [0, 1, 2, 3, 4, 5, 6] rfl
    have hD9 := hD.sub (ws' := [(ox, .inr (2, [.int st, .int lf, .int ao, .ref ow, .ref og, .ref oc, .ref od, .int bad])), (ow, .inr (0, [.int lf, .ref oaw, .int u_8wr.2])), (oaw, .inl (cIw, 600, .inl u_8wr.1)), (og, .inr (1, [.ref ow, .int st, .int sib, .int u_8tw.1, .int u_8tw.2.1, .int u_8tw.2.2.1, .int u_8tw.2.2.2])), (oc, .inr (0, [.int lf, .ref oac, .int cr.2])), (oac, .inl (cIc, 600, .inl cr.1)), (od, .inr (1, [.ref oc, .int st, .int sib, .int tr.1, .int tr.2.1, .int tr.2.2.1, .int tr.2.2.2]))]) [0, 1, 2, 3, 4, 5, 6] (by decide) rfl
    exact W.vret hx hb hr (fun t ht hW => ⟨⟨(u_8wr, u_8tw), rfl, (plX2_writeBit_1 st lf ao sib wr tw cr tr bad p0 _ _ hw_1 _ hw_3 _ hw_5 c_31 _ _ hw_7), by rw [ht]; exact hP9, hD9⟩, hS.F ht⟩) hS.2.2 dX2_writeBit_38
def LX2_writeTillAligned_4 (st : Int32) (lf : Int32) (ao : Int32) (sib : Int32) : Nat → Rw → Tk → Rw → Tk → Int32 → Int32 → Int32 → Int32 × Rw × Tk
  | 0, wr, tw, cr, tr, bad, zr, i => (0, wr, tw)
  | n + 1, wr, tw, cr, tr, bad, zr, i =>
    if 16 ≤ i then
      (zr, wr, tw)
    else
      let r_1 := FX1_isAligned st sib lf tw wr
      if r_1 = 0 then
        let zhw_3 := FX2_writeBit st lf ao sib wr tw cr tr bad 0
        let u_4wr := zhw_3.1
        let u_4tw := zhw_3.2
        let i_5 := zr + 1
        let i_6 := i + 1
        LX2_writeTillAligned_4 st lf ao sib n u_4wr u_4tw cr tr bad i_5 i_6
      else
        (zr, wr, tw)
def FX2_writeTillAligned (st : Int32) (lf : Int32) (ao : Int32) (sib : Int32) (wr : Rw) (tw : Tk) (cr : Rw) (tr : Tk) (bad : Int32) : Int32 × Rw × Tk :=
  LX2_writeTillAligned_4 st lf ao sib 17 wr tw cr tr bad 0 0
set_option maxRecDepth 100000 in
theorem plX2_writeTillAligned_l4_0 (st : Int32) (lf : Int32) (ao : Int32) (sib : Int32) (n : Nat) (wr : Rw) (tw : Tk) (cr : Rw) (tr : Tk) (bad : Int32) (zr : Int32) (i : Int32) (c_7 : 16 ≤ i) : (zr, wr, tw) = LX2_writeTillAligned_4 st lf ao sib (n + 1) wr tw cr tr bad zr i := by
  exact (if_pos c_7).symm
set_option maxRecDepth 100000 in
theorem plX2_writeTillAligned_l4_1 (st : Int32) (lf : Int32) (ao : Int32) (sib : Int32) (n : Nat) (wr : Rw) (tw : Tk) (cr : Rw) (tr : Tk) (bad : Int32) (zr : Int32) (i : Int32) (c_7 : ¬ (16 ≤ i)) (r_1 : Int32) (hw_2 : r_1 = FX1_isAligned st sib lf tw wr) (c_17 : ¬ (r_1 = 0)) : (zr, wr, tw) = LX2_writeTillAligned_4 st lf ao sib (n + 1) wr tw cr tr bad zr i := by
  subst hw_2
  exact ((if_neg c_7).trans (if_neg c_17)).symm
set_option maxRecDepth 100000 in
theorem plX2_writeTillAligned_l4_2 (st : Int32) (lf : Int32) (ao : Int32) (sib : Int32) (n : Nat) (wr : Rw) (tw : Tk) (cr : Rw) (tr : Tk) (bad : Int32) (zr : Int32) (i : Int32) (c_7 : ¬ (16 ≤ i)) (r_1 : Int32) (hw_2 : r_1 = FX1_isAligned st sib lf tw wr) (c_17 : r_1 = 0) (u_4wr : Rw) (u_4tw : Tk) (hw_3 : (u_4wr, u_4tw) = FX2_writeBit st lf ao sib wr tw cr tr bad 0) (i_5 : Int32) (ei_5 : i_5 = zr + 1) (i_6 : Int32) (ei_6 : i_6 = i + 1) : LX2_writeTillAligned_4 st lf ao sib n u_4wr u_4tw cr tr bad i_5 i_6 = LX2_writeTillAligned_4 st lf ao sib (n + 1) wr tw cr tr bad zr i := by
  subst hw_2
  have q0 := congrArg (fun z => z.1) hw_3
  have q1 := congrArg (fun z => z.2) hw_3
  dsimp only at q0 q1
  subst q0
  subst q1
  clear hw_3
  subst ei_5
  subst ei_6
  exact ((if_neg c_7).trans (if_pos c_17)).symm
set_option maxRecDepth 100000 in
theorem plX2_writeTillAligned_0 (st : Int32) (lf : Int32) (ao : Int32) (sib : Int32) (wr : Rw) (tw : Tk) (cr : Rw) (tr : Tk) (bad : Int32)  : LX2_writeTillAligned_4 st lf ao sib 17 wr tw cr tr bad 0 0 = FX2_writeTillAligned st lf ao sib wr tw cr tr bad := by
  exact rfl
set_option maxHeartbeats 4000000 in
set_option maxRecDepth 100000 in
theorem kX2_writeTillAligned_4 {p : Program} {l : Launch} {e : Env} {s : State} {m : MethodId} {args : Array Value} {below : List Frame} {meth : Method} {c : Code} {dC : Nat → ClassId} {dI : Nat → Nat → Nat} {cIw cIc : ClassId} {ox ow oaw og oc oac od : Nat} {st : Int32} {lf : Int32} {ao : Int32} {sib : Int32} {z : Int32 × Rw × Tk} {A : Nat → Prop} (hx : p.tables.exec = Jvm.exec) (hb : c.code = cX2_writeTillAligned) (hr : meth.sig.returnType = (some .int)) (hml : c.maxLocals = 3) (hown : s.vm.findClass RX2 = some m.cls) (hts : ∀ w ∈ G, w.before args s = true) (hlocks : meth.locks = false) (hA : ∀ q : Nat, s.heap.size ≤ q → A q) (hZ : zOk s) (hK : va_K (dC, dI) vwCl [(cIw, .int), (cIc, .int)] s) : ∀ (n : Nat) (wr : Rw) (tw : Tk) (cr : Rw) (tr : Tk) (bad : Int32) (zr : Int32) (i : Int32), (fuel n i 16) → LX2_writeTillAligned_4 st lf ao sib n wr tw cr tr bad zr i = z → ∀ (H : Heap) (locs : List Loc), va_P (dC, dI) vwCl [(ox, .inr (2, [.int st, .int lf, .int ao, .ref ow, .ref og, .ref oc, .ref od, .int bad])), (ow, .inr (0, [.int lf, .ref oaw, .int wr.2])), (oaw, .inl (cIw, 600, .inl wr.1)), (og, .inr (1, [.ref ow, .int st, .int sib, .int tw.1, .int tw.2.1, .int tw.2.2.1, .int tw.2.2.2])), (oc, .inr (0, [.int lf, .ref oac, .int cr.2])), (oac, .inl (cIc, 600, .inl cr.1)), (od, .inr (1, [.ref oc, .int st, .int sib, .int tr.1, .int tr.2.1, .int tr.2.2.1, .int tr.2.2.2]))] H → va_D A [(ox, .inr (2, [.int st, .int lf, .int ao, .ref ow, .ref og, .ref oc, .ref od, .int bad])), (ow, .inr (0, [.int lf, .ref oaw, .int wr.2])), (oaw, .inl (cIw, 600, .inl wr.1)), (og, .inr (1, [.ref ow, .int st, .int sib, .int tw.1, .int tw.2.1, .int tw.2.2.1, .int tw.2.2.2])), (oc, .inr (0, [.int lf, .ref oac, .int cr.2])), (oac, .inl (cIc, 600, .inl cr.1)), (od, .inr (1, [.ref oc, .int st, .int sib, .int tr.1, .int tr.2.1, .int tr.2.2.1, .int tr.2.2.2]))] → va_S A s.heap H locs → ∀ (ls : Array Slot), lv_has ls 3 [(0, .ref ox), (1, .int zr), (2, .int i)] → W p l e (headSpec (Cond.code yX2_writeTillAligned cX2_writeTillAligned 3 (some .int) :: G) ({ frames := 5, cells := 0, slots := 0, locals := 103 } : Room)).room s m args below meth c H locs 0 0 (MQ below (va_Qi (fun (r : Int32) (u : Rw × Tk) => (r, u) = z) (fun (u : Rw × Tk) (t : State) => va_P (dC, dI) vwCl [(ox, .inr (2, [.int st, .int lf, .int ao, .ref ow, .ref og, .ref oc, .ref od, .int bad])), (ow, .inr (0, [.int lf, .ref oaw, .int u.1.2])), (oaw, .inl (cIw, 600, .inl u.1.1)), (og, .inr (1, [.ref ow, .int st, .int sib, .int u.2.1, .int u.2.2.1, .int u.2.2.2.1, .int u.2.2.2.2])), (oc, .inr (0, [.int lf, .ref oac, .int cr.2])), (oac, .inl (cIc, 600, .inl cr.1)), (od, .inr (1, [.ref oc, .int st, .int sib, .int tr.1, .int tr.2.1, .int tr.2.2.1, .int tr.2.2.2]))] t.heap ∧ va_D A [(ox, .inr (2, [.int st, .int lf, .int ao, .ref ow, .ref og, .ref oc, .ref od, .int bad])), (ow, .inr (0, [.int lf, .ref oaw, .int u.1.2])), (oaw, .inl (cIw, 600, .inl u.1.1)), (og, .inr (1, [.ref ow, .int st, .int sib, .int u.2.1, .int u.2.2.1, .int u.2.2.2.1, .int u.2.2.2.2])), (oc, .inr (0, [.int lf, .ref oac, .int cr.2])), (oac, .inl (cIc, 600, .inl cr.1)), (od, .inr (1, [.ref oc, .int st, .int sib, .int tr.1, .int tr.2.1, .int tr.2.2.1, .int tr.2.2.2]))]) A) args s 0 0 A) (F0 m 4 ls []) := by
  intro n
  induction n with
  | zero =>
    intro wr tw cr tr bad zr i hf hz
    exact absurd hf.1 (Nat.lt_irrefl 0)
  | succ n ih =>
    intro wr tw cr tr bad zr i hf hz H locs hP hD hS ls hl
    refine lv_iload_n hx hb dX2_writeTillAligned_4 rfl (lv_at hl 2 rfl) ?_
    refine lv_bipush (v := 16) hx hb dX2_writeTillAligned_5 (by decide) ?_
    refine lv_icmp_ge (tgt := 34) hx hb dX2_writeTillAligned_7 (by decide) (fun c_7 => ?_) (fun c_7 => ?_)
    · refine lv_iload_n hx hb dX2_writeTillAligned_34 rfl (lv_at hl 1 rfl) ?_
      have hP9 := hP.sub (ws' := [(ox, .inr (2, [.int st, .int lf, .int ao, .ref ow, .ref og, .ref oc, .ref od, .int bad])), (ow, .inr (0, [.int lf, .ref oaw, .int wr.2])), (oaw, .inl (cIw, 600, .inl wr.1)), (og, .inr (1, [.ref ow, .int st, .int sib, .int tw.1, .int tw.2.1, .int tw.2.2.1, .int tw.2.2.2])), (oc, .inr (0, [.int lf, .ref oac, .int cr.2])), (oac, .inl (cIc, 600, .inl cr.1)), (od, .inr (1, [.ref oc, .int st, .int sib, .int tr.1, .int tr.2.1, .int tr.2.2.1, .int tr.2.2.2]))]) [0, 1, 2, 3, 4, 5, 6] rfl
      have hD9 := hD.sub (ws' := [(ox, .inr (2, [.int st, .int lf, .int ao, .ref ow, .ref og, .ref oc, .ref od, .int bad])), (ow, .inr (0, [.int lf, .ref oaw, .int wr.2])), (oaw, .inl (cIw, 600, .inl wr.1)), (og, .inr (1, [.ref ow, .int st, .int sib, .int tw.1, .int tw.2.1, .int tw.2.2.1, .int tw.2.2.2])), (oc, .inr (0, [.int lf, .ref oac, .int cr.2])), (oac, .inl (cIc, 600, .inl cr.1)), (od, .inr (1, [.ref oc, .int st, .int sib, .int tr.1, .int tr.2.1, .int tr.2.2.1, .int tr.2.2.2]))]) [0, 1, 2, 3, 4, 5, 6] (by decide) rfl
      exact W.iret (v := zr) hx hb hr (fun t ht hW => ⟨⟨zr, (wr, tw), rfl, ((plX2_writeTillAligned_l4_0 st lf ao sib n wr tw cr tr bad zr i c_7).trans hz), by rw [ht]; exact hP9, hD9⟩, hS.F ht⟩) hS.2.2 dX2_writeTillAligned_35
    · refine lv_aload_n hx hb dX2_writeTillAligned_10 rfl (lv_at hl 0 rfl) ?_
      refine va_get (D := (dC, dI)) (ci := 2) (v := .ref og) (C := RX2) (T := TX2) (N := 8) hx hb hts inGX2 hown hK hP 0 rfl rfl 4 (by decide) (hts _ wd102) (fun _ h9 => h9) rfl dX2_writeTillAligned_11 ?_
      have hPc := hP.sub (ws' := [(og, .inr (1, [.ref ow, .int st, .int sib, .int tw.1, .int tw.2.1, .int tw.2.2.1, .int tw.2.2.2])), (ow, .inr (0, [.int lf, .ref oaw, .int wr.2])), (oaw, .inl (cIw, 600, .inl wr.1))]) [3, 1, 2] rfl
      have hKc := hK.sub (tys' := [(cIw, .int)]) [0] rfl
      refine vp_callSi (va_Run.run (va_runV (As := []) (rest := []) ⟨hx, hb, hml, hown, hts⟩ (mX1_isAligned l dC dI cIw og ow oaw st sib lf tw wr) (cwV 0 hts (gV wd127 wd128 wd129 wd29 wd130) rfl rfl rfl (by decide +kernel) ⟨Nat.le_of_ble_eq_true rfl, Nat.le_of_ble_eq_true rfl⟩) ⟨fb_ro, va_recv hKc hPc (ci := 1) (q0 := 0) rfl rfl, pre_ro hPc hKc hZ⟩ rfl rfl hl.1 rfl (lv_room (Nat.le_of_ble_eq_true rfl)) dX2_writeTillAligned_14 ⟨Nat.le_of_ble_eq_true rfl, Nat.le_of_ble_eq_true rfl⟩)) (fun r_1 hw_2 => ?_)
      refine lv_if_ne (tgt := 34) hx hb dX2_writeTillAligned_17 (by decide) (fun c_17 => ?_) (fun c_17 => ?_)
      · refine lv_iload_n hx hb dX2_writeTillAligned_34 rfl (lv_at hl 1 rfl) ?_
        have hP9 := hP.sub (ws' := [(ox, .inr (2, [.int st, .int lf, .int ao, .ref ow, .ref og, .ref oc, .ref od, .int bad])), (ow, .inr (0, [.int lf, .ref oaw, .int wr.2])), (oaw, .inl (cIw, 600, .inl wr.1)), (og, .inr (1, [.ref ow, .int st, .int sib, .int tw.1, .int tw.2.1, .int tw.2.2.1, .int tw.2.2.2])), (oc, .inr (0, [.int lf, .ref oac, .int cr.2])), (oac, .inl (cIc, 600, .inl cr.1)), (od, .inr (1, [.ref oc, .int st, .int sib, .int tr.1, .int tr.2.1, .int tr.2.2.1, .int tr.2.2.2]))]) [0, 1, 2, 3, 4, 5, 6] rfl
        have hD9 := hD.sub (ws' := [(ox, .inr (2, [.int st, .int lf, .int ao, .ref ow, .ref og, .ref oc, .ref od, .int bad])), (ow, .inr (0, [.int lf, .ref oaw, .int wr.2])), (oaw, .inl (cIw, 600, .inl wr.1)), (og, .inr (1, [.ref ow, .int st, .int sib, .int tw.1, .int tw.2.1, .int tw.2.2.1, .int tw.2.2.2])), (oc, .inr (0, [.int lf, .ref oac, .int cr.2])), (oac, .inl (cIc, 600, .inl cr.1)), (od, .inr (1, [.ref oc, .int st, .int sib, .int tr.1, .int tr.2.1, .int tr.2.2.1, .int tr.2.2.2]))]) [0, 1, 2, 3, 4, 5, 6] (by decide) rfl
        exact W.iret (v := zr) hx hb hr (fun t ht hW => ⟨⟨zr, (wr, tw), rfl, ((plX2_writeTillAligned_l4_1 st lf ao sib n wr tw cr tr bad zr i c_7 _ hw_2 c_17).trans hz), by rw [ht]; exact hP9, hD9⟩, hS.F ht⟩) hS.2.2 dX2_writeTillAligned_35
      · refine lv_aload_n hx hb dX2_writeTillAligned_20 rfl (lv_at hl 0 rfl) ?_
        refine lv_iconst (v := 0) hx hb dX2_writeTillAligned_21 (by decide) ?_
        have hPc := hP.sub (ws' := [(ox, .inr (2, [.int st, .int lf, .int ao, .ref ow, .ref og, .ref oc, .ref od, .int bad])), (ow, .inr (0, [.int lf, .ref oaw, .int wr.2])), (oaw, .inl (cIw, 600, .inl wr.1)), (og, .inr (1, [.ref ow, .int st, .int sib, .int tw.1, .int tw.2.1, .int tw.2.2.1, .int tw.2.2.2])), (oc, .inr (0, [.int lf, .ref oac, .int cr.2])), (oac, .inl (cIc, 600, .inl cr.1)), (od, .inr (1, [.ref oc, .int st, .int sib, .int tr.1, .int tr.2.1, .int tr.2.2.1, .int tr.2.2.2]))]) [0, 1, 2, 3, 4, 5, 6] rfl
        have hKc := hK.sub (tys' := [(cIw, .int), (cIc, .int)]) [0, 1] rfl
        have hDc := hD.sub (ws' := [(ox, .inr (2, [.int st, .int lf, .int ao, .ref ow, .ref og, .ref oc, .ref od, .int bad])), (ow, .inr (0, [.int lf, .ref oaw, .int wr.2])), (oaw, .inl (cIw, 600, .inl wr.1)), (og, .inr (1, [.ref ow, .int st, .int sib, .int tw.1, .int tw.2.1, .int tw.2.2.1, .int tw.2.2.2])), (oc, .inr (0, [.int lf, .ref oac, .int cr.2])), (oac, .inl (cIc, 600, .inl cr.1)), (od, .inr (1, [.ref oc, .int st, .int sib, .int tr.1, .int tr.2.1, .int tr.2.2.1, .int tr.2.2.2]))]) [0, 1, 2, 3, 4, 5, 6] (by decide) rfl
        have hFc := va_free (wc := [(ox, .inr (2, [.int st, .int lf, .int ao, .ref ow, .ref og, .ref oc, .ref od, .int bad])), (ow, .inr (0, [.int lf, .ref oaw, .int wr.2])), (oaw, .inl (cIw, 600, .inl wr.1)), (og, .inr (1, [.ref ow, .int st, .int sib, .int tw.1, .int tw.2.1, .int tw.2.2.1, .int tw.2.2.2])), (oc, .inr (0, [.int lf, .ref oac, .int cr.2])), (oac, .inl (cIc, 600, .inl cr.1)), (od, .inr (1, [.ref oc, .int st, .int sib, .int tr.1, .int tr.2.1, .int tr.2.2.1, .int tr.2.2.2]))]) hD hS hA [0, 1, 2, 3, 4, 5, 6] rfl
        refine va_callv (va_runV (As := [.int 0]) (rest := []) ⟨hx, hb, hml, hown, hts⟩ (mX2_writeBit l dC dI cIw cIc ox ow oaw og oc oac od H.size st lf ao sib wr tw cr tr bad 0) (cwV 1 hts (gV wd299 wd300 wd5 wd26 wd301) rfl rfl rfl (by decide +kernel) ⟨Nat.le_of_ble_eq_true rfl, Nat.le_of_ble_eq_true rfl⟩) ⟨fb_rw, va_recv hKc hPc (ci := 2) (q0 := 0) rfl rfl, pre_rw hPc hKc hDc hZ⟩ rfl rfl hl.1 rfl (lv_room (Nat.le_of_ble_eq_true rfl)) dX2_writeTillAligned_22 ⟨Nat.le_of_ble_eq_true rfl, Nat.le_of_ble_eq_true rfl⟩) hS (fun q _ h => hFc q h) hFc (fun u_4 t H1 locs ht hvm hw_3 hB hz1 hk1 hS => ?_)
        obtain ⟨u_4wr, u_4tw⟩ := u_4
        obtain ⟨hP1, hD1⟩ := hB
        rw [ht] at hP1
        obtain ⟨hP, hD⟩ := va_join (wr := []) (w1 := [(ox, .inr (2, [.int st, .int lf, .int ao, .ref ow, .ref og, .ref oc, .ref od, .int bad])), (ow, .inr (0, [.int lf, .ref oaw, .int u_4wr.2])), (oaw, .inl (cIw, 600, .inl u_4wr.1)), (og, .inr (1, [.ref ow, .int st, .int sib, .int u_4tw.1, .int u_4tw.2.1, .int u_4tw.2.2.1, .int u_4tw.2.2.2])), (oc, .inr (0, [.int lf, .ref oac, .int cr.2])), (oac, .inl (cIc, 600, .inl cr.1)), (od, .inr (1, [.ref oc, .int st, .int sib, .int tr.1, .int tr.2.1, .int tr.2.2.1, .int tr.2.2.2]))]) hP hD [0, 1, 2, 3, 4, 5, 6] [] rfl rfl (by decide) (by decide) hk1 hFc hP1 hD1
        generalize H1 = H at hP hS ⊢
        have hP : va_P (dC, dI) vwCl [(ox, .inr (2, [.int st, .int lf, .int ao, .ref ow, .ref og, .ref oc, .ref od, .int bad])), (ow, .inr (0, [.int lf, .ref oaw, .int u_4wr.2])), (oaw, .inl (cIw, 600, .inl u_4wr.1)), (og, .inr (1, [.ref ow, .int st, .int sib, .int u_4tw.1, .int u_4tw.2.1, .int u_4tw.2.2.1, .int u_4tw.2.2.2])), (oc, .inr (0, [.int lf, .ref oac, .int cr.2])), (oac, .inl (cIc, 600, .inl cr.1)), (od, .inr (1, [.ref oc, .int st, .int sib, .int tr.1, .int tr.2.1, .int tr.2.2.1, .int tr.2.2.2]))] H := hP
        have hD : va_D A [(ox, .inr (2, [.int st, .int lf, .int ao, .ref ow, .ref og, .ref oc, .ref od, .int bad])), (ow, .inr (0, [.int lf, .ref oaw, .int u_4wr.2])), (oaw, .inl (cIw, 600, .inl u_4wr.1)), (og, .inr (1, [.ref ow, .int st, .int sib, .int u_4tw.1, .int u_4tw.2.1, .int u_4tw.2.2.1, .int u_4tw.2.2.2])), (oc, .inr (0, [.int lf, .ref oac, .int cr.2])), (oac, .inl (cIc, 600, .inl cr.1)), (od, .inr (1, [.ref oc, .int st, .int sib, .int tr.1, .int tr.2.1, .int tr.2.2.1, .int tr.2.2.2]))] := hD
        obtain ⟨i_5, ei_5⟩ : ∃ y : Int32, y = zr + 1 := ⟨_, rfl⟩
        refine lv_iinc (v := i_5) (lv' := [(1, .int i_5), (0, .ref ox), (2, .int i)]) hx hb dX2_writeTillAligned_25 hl (k := 1) rfl (by rw [ei_5]; rfl) (by decide) rfl (fun ls hl => ?_)
        obtain ⟨i_6, ei_6⟩ : ∃ y : Int32, y = i + 1 := ⟨_, rfl⟩
        refine lv_iinc (v := i_6) (lv' := [(2, .int i_6), (1, .int i_5), (0, .ref ox)]) hx hb dX2_writeTillAligned_28 hl (k := 2) rfl (by rw [ei_6]; rfl) (by decide) rfl (fun ls hl => ?_)
        refine lv_goto (tgt := 4) hx hb dX2_writeTillAligned_31 (by decide) ?_
        exact ih u_4wr u_4tw cr tr bad i_5 i_6 (fuel_step2 hf (nle_lt c_7) (by assumption)) ((plX2_writeTillAligned_l4_2 st lf ao sib n wr tw cr tr bad zr i c_7 _ hw_2 c_17 _ _ hw_3 _ ei_5 _ ei_6).trans hz) _ _ (hP.sub (ws' := [(ox, .inr (2, [.int st, .int lf, .int ao, .ref ow, .ref og, .ref oc, .ref od, .int bad])), (ow, .inr (0, [.int lf, .ref oaw, .int u_4wr.2])), (oaw, .inl (cIw, 600, .inl u_4wr.1)), (og, .inr (1, [.ref ow, .int st, .int sib, .int u_4tw.1, .int u_4tw.2.1, .int u_4tw.2.2.1, .int u_4tw.2.2.2])), (oc, .inr (0, [.int lf, .ref oac, .int cr.2])), (oac, .inl (cIc, 600, .inl cr.1)), (od, .inr (1, [.ref oc, .int st, .int sib, .int tr.1, .int tr.2.1, .int tr.2.2.1, .int tr.2.2.2]))]) [0, 1, 2, 3, 4, 5, 6] rfl) (hD.sub (ws' := [(ox, .inr (2, [.int st, .int lf, .int ao, .ref ow, .ref og, .ref oc, .ref od, .int bad])), (ow, .inr (0, [.int lf, .ref oaw, .int u_4wr.2])), (oaw, .inl (cIw, 600, .inl u_4wr.1)), (og, .inr (1, [.ref ow, .int st, .int sib, .int u_4tw.1, .int u_4tw.2.1, .int u_4tw.2.2.1, .int u_4tw.2.2.2])), (oc, .inr (0, [.int lf, .ref oac, .int cr.2])), (oac, .inl (cIc, 600, .inl cr.1)), (od, .inr (1, [.ref oc, .int st, .int sib, .int tr.1, .int tr.2.1, .int tr.2.2.1, .int tr.2.2.2]))]) [0, 1, 2, 3, 4, 5, 6] (by decide) rfl) hS ls (lv_sub hl [2, 1, 0] rfl)
set_option maxHeartbeats 4000000 in
set_option maxRecDepth 100000 in
theorem mX2_writeTillAligned (l : Launch) (dC : Nat → ClassId) (dI : Nat → Nat → Nat) (cIw cIc : ClassId) (ox ow oaw og oc oac od : Nat) (sz : Nat) (st : Int32) (lf : Int32) (ao : Int32) (sib : Int32) (wr : Rw) (tw : Tk) (cr : Rw) (tr : Tk) (bad : Int32) : Met l yX2_writeTillAligned (Cond.code yX2_writeTillAligned cX2_writeTillAligned 3 (some .int) :: G) ({ frames := 5, cells := 0, slots := 0, locals := 103 } : Room) (va_Pc [.ref ox] (fun U => U.heap.size = sz ∧ va_P (dC, dI) vwCl [(ox, .inr (2, [.int st, .int lf, .int ao, .ref ow, .ref og, .ref oc, .ref od, .int bad])), (ow, .inr (0, [.int lf, .ref oaw, .int wr.2])), (oaw, .inl (cIw, 600, .inl wr.1)), (og, .inr (1, [.ref ow, .int st, .int sib, .int tw.1, .int tw.2.1, .int tw.2.2.1, .int tw.2.2.2])), (oc, .inr (0, [.int lf, .ref oac, .int cr.2])), (oac, .inl (cIc, 600, .inl cr.1)), (od, .inr (1, [.ref oc, .int st, .int sib, .int tr.1, .int tr.2.1, .int tr.2.2.1, .int tr.2.2.2]))] U.heap ∧ va_K (dC, dI) vwCl [(cIw, .int), (cIc, .int)] U ∧ va_D (fun _ => True) [(ox, .inr (2, [.int st, .int lf, .int ao, .ref ow, .ref og, .ref oc, .ref od, .int bad])), (ow, .inr (0, [.int lf, .ref oaw, .int wr.2])), (oaw, .inl (cIw, 600, .inl wr.1)), (og, .inr (1, [.ref ow, .int st, .int sib, .int tw.1, .int tw.2.1, .int tw.2.2.1, .int tw.2.2.2])), (oc, .inr (0, [.int lf, .ref oac, .int cr.2])), (oac, .inl (cIc, 600, .inl cr.1)), (od, .inr (1, [.ref oc, .int st, .int sib, .int tr.1, .int tr.2.1, .int tr.2.2.1, .int tr.2.2.2]))] ∧ zOk U)) (va_Qi (fun (r : Int32) (u : Rw × Tk) => (r, u) = (FX2_writeTillAligned st lf ao sib wr tw cr tr bad)) (fun (u : Rw × Tk) (t : State) => va_P (dC, dI) vwCl [(ox, .inr (2, [.int st, .int lf, .int ao, .ref ow, .ref og, .ref oc, .ref od, .int bad])), (ow, .inr (0, [.int lf, .ref oaw, .int u.1.2])), (oaw, .inl (cIw, 600, .inl u.1.1)), (og, .inr (1, [.ref ow, .int st, .int sib, .int u.2.1, .int u.2.2.1, .int u.2.2.2.1, .int u.2.2.2.2])), (oc, .inr (0, [.int lf, .ref oac, .int cr.2])), (oac, .inl (cIc, 600, .inl cr.1)), (od, .inr (1, [.ref oc, .int st, .int sib, .int tr.1, .int tr.2.1, .int tr.2.2.1, .int tr.2.2.2]))] t.heap ∧ va_D (va_A [(ox, .inr (2, [.int st, .int lf, .int ao, .ref ow, .ref og, .ref oc, .ref od, .int bad])), (ow, .inr (0, [.int lf, .ref oaw, .int wr.2])), (oaw, .inl (cIw, 600, .inl wr.1)), (og, .inr (1, [.ref ow, .int st, .int sib, .int tw.1, .int tw.2.1, .int tw.2.2.1, .int tw.2.2.2])), (oc, .inr (0, [.int lf, .ref oac, .int cr.2])), (oac, .inl (cIc, 600, .inl cr.1)), (od, .inr (1, [.ref oc, .int st, .int sib, .int tr.1, .int tr.2.1, .int tr.2.2.1, .int tr.2.2.2]))] sz) [(ox, .inr (2, [.int st, .int lf, .int ao, .ref ow, .ref og, .ref oc, .ref od, .int bad])), (ow, .inr (0, [.int lf, .ref oaw, .int u.1.2])), (oaw, .inl (cIw, 600, .inl u.1.1)), (og, .inr (1, [.ref ow, .int st, .int sib, .int u.2.1, .int u.2.2.1, .int u.2.2.2.1, .int u.2.2.2.2])), (oc, .inr (0, [.int lf, .ref oac, .int cr.2])), (oac, .inl (cIc, 600, .inl cr.1)), (od, .inr (1, [.ref oc, .int st, .int sib, .int tr.1, .int tr.2.1, .int tr.2.2.1, .int tr.2.2.2]))]) (va_A [(ox, .inr (2, [.int st, .int lf, .int ao, .ref ow, .ref og, .ref oc, .ref od, .int bad])), (ow, .inr (0, [.int lf, .ref oaw, .int wr.2])), (oaw, .inl (cIw, 600, .inl wr.1)), (og, .inr (1, [.ref ow, .int st, .int sib, .int tw.1, .int tw.2.1, .int tw.2.2.1, .int tw.2.2.2])), (oc, .inr (0, [.int lf, .ref oac, .int cr.2])), (oac, .inl (cIc, 600, .inl cr.1)), (od, .inr (1, [.ref oc, .int st, .int sib, .int tr.1, .int tr.2.1, .int tr.2.2.1, .int tr.2.2.2]))] sz)) 0 0 (va_A [(ox, .inr (2, [.int st, .int lf, .int ao, .ref ow, .ref og, .ref oc, .ref od, .int bad])), (ow, .inr (0, [.int lf, .ref oaw, .int wr.2])), (oaw, .inl (cIw, 600, .inl wr.1)), (og, .inr (1, [.ref ow, .int st, .int sib, .int tw.1, .int tw.2.1, .int tw.2.2.1, .int tw.2.2.2])), (oc, .inr (0, [.int lf, .ref oac, .int cr.2])), (oac, .inl (cIc, 600, .inl cr.1)), (od, .inr (1, [.ref oc, .int st, .int sib, .int tr.1, .int tr.2.1, .int tr.2.2.1, .int tr.2.2.2]))] sz) := by
  refine Met.ofW (cc := cX2_writeTillAligned) (maxL := 3) (ret := (some .int)) (by decide) rfl ?_
  intro p e s m args below meth c s₁ B hml hv
  obtain ⟨rfl, hsz, hP, hK, hD0, hZ⟩ := hv
  have hx := B.exec
  have hb := B.bytes
  have hr := B.returns
  have hts : ∀ w ∈ G, w.before [.ref ox].toArray s = true := fun w h => atoms_spec (ws := (Cond.code yX2_writeTillAligned cX2_writeTillAligned 3 (some .int) :: G)) B.pre w (List.mem_cons_of_mem _ h)
  have hown : s.vm.findClass RX2 = some m.cls := findClass_of_methodNamed B.named
  have hlocks := B.notSynchronized
  subst hsz
  have hD := hD0.self (sz := s.heap.size)
  generalize hAe : va_A [(ox, .inr (2, [.int st, .int lf, .int ao, .ref ow, .ref og, .ref oc, .ref od, .int bad])), (ow, .inr (0, [.int lf, .ref oaw, .int wr.2])), (oaw, .inl (cIw, 600, .inl wr.1)), (og, .inr (1, [.ref ow, .int st, .int sib, .int tw.1, .int tw.2.1, .int tw.2.2.1, .int tw.2.2.2])), (oc, .inr (0, [.int lf, .ref oac, .int cr.2])), (oac, .inl (cIc, 600, .inl cr.1)), (od, .inr (1, [.ref oc, .int st, .int sib, .int tr.1, .int tr.2.1, .int tr.2.2.1, .int tr.2.2.2]))] s.heap.size = A at hD ⊢
  have hA : ∀ q : Nat, s.heap.size ≤ q → A q := fun q h => by rw [← hAe]; exact Or.inr h
  have hS : va_S A s.heap s.heap [] := va_S.rf
  have hP : va_P (dC, dI) vwCl [(ox, .inr (2, [.int st, .int lf, .int ao, .ref ow, .ref og, .ref oc, .ref od, .int bad])), (ow, .inr (0, [.int lf, .ref oaw, .int wr.2])), (oaw, .inl (cIw, 600, .inl wr.1)), (og, .inr (1, [.ref ow, .int st, .int sib, .int tw.1, .int tw.2.1, .int tw.2.2.1, .int tw.2.2.2])), (oc, .inr (0, [.int lf, .ref oac, .int cr.2])), (oac, .inl (cIc, 600, .inl cr.1)), (od, .inr (1, [.ref oc, .int st, .int sib, .int tr.1, .int tr.2.1, .int tr.2.2.1, .int tr.2.2.2]))] s.heap := hP
  have hl := lv_entry ([.ref ox]) (n := 3) (Nat.le_of_ble_eq_true rfl)
  rw [lg_entry_eq]
  generalize (lg_sl ([.ref ox]) ++ List.replicate (3 - (lg_sl ([.ref ox])).length) Slot.unset).toArray = ls at hl ⊢
  have hl : lv_has ls 3 [(0, .ref ox)] := hl
  refine lv_iconst (v := 0) hx hb dX2_writeTillAligned_0 (by decide) ?_
  refine lv_istore_n (lv' := [(1, .int 0), (0, .ref ox)]) hx hb dX2_writeTillAligned_1 rfl hl (by decide) rfl (fun ls hl => ?_)
  refine lv_iconst (v := 0) hx hb dX2_writeTillAligned_2 (by decide) ?_
  refine lv_istore_n (lv' := [(2, .int 0), (1, .int 0), (0, .ref ox)]) hx hb dX2_writeTillAligned_3 rfl hl (by decide) rfl (fun ls hl => ?_)
  exact kX2_writeTillAligned_4 hx hb hr hml hown hts hlocks hA hZ hK 17 wr tw cr tr bad 0 0 (fuel_of (by decide) (by decide)) (plX2_writeTillAligned_0 st lf ao sib wr tw cr tr bad) _ _ (hP.sub (ws' := [(ox, .inr (2, [.int st, .int lf, .int ao, .ref ow, .ref og, .ref oc, .ref od, .int bad])), (ow, .inr (0, [.int lf, .ref oaw, .int wr.2])), (oaw, .inl (cIw, 600, .inl wr.1)), (og, .inr (1, [.ref ow, .int st, .int sib, .int tw.1, .int tw.2.1, .int tw.2.2.1, .int tw.2.2.2])), (oc, .inr (0, [.int lf, .ref oac, .int cr.2])), (oac, .inl (cIc, 600, .inl cr.1)), (od, .inr (1, [.ref oc, .int st, .int sib, .int tr.1, .int tr.2.1, .int tr.2.2.1, .int tr.2.2.2]))]) [0, 1, 2, 3, 4, 5, 6] rfl) (hD.sub (ws' := [(ox, .inr (2, [.int st, .int lf, .int ao, .ref ow, .ref og, .ref oc, .ref od, .int bad])), (ow, .inr (0, [.int lf, .ref oaw, .int wr.2])), (oaw, .inl (cIw, 600, .inl wr.1)), (og, .inr (1, [.ref ow, .int st, .int sib, .int tw.1, .int tw.2.1, .int tw.2.2.1, .int tw.2.2.2])), (oc, .inr (0, [.int lf, .ref oac, .int cr.2])), (oac, .inl (cIc, 600, .inl cr.1)), (od, .inr (1, [.ref oc, .int st, .int sib, .int tr.1, .int tr.2.1, .int tr.2.2.1, .int tr.2.2.2]))]) [0, 1, 2, 3, 4, 5, 6] (by decide) rfl) hS ls (lv_sub hl [2, 1, 0] rfl)
def FX2_meetHere (st : Int32) (lf : Int32) (ao : Int32) (sib : Int32) (wr : Rw) (tw : Tk) (cr : Rw) (tr : Tk) (bad : Int32) : Int32 :=
  let r_1 := FX1_isWithin st sib lf tr cr
  if r_1 = 0 then
    (-1)
  else
    let x_3 := tr.1 >>> (3 &&& 31)
    if st = 1 then
      let r_4 := FX1_isAtByte st sib lf tr cr
      if r_4 = 0 then
        0
      else
        let r_6 := FX0_byteOf lf cr x_3
        if r_6 = 255 then
          if (x_3 + 1) < cr.2 then
            let r_8 := FX0_isMarkAt lf cr x_3
            if r_8 = 0 then
              0
            else
              (-2)
          else
            (-1)
        else
          0
    else
      0
set_option maxRecDepth 100000 in
theorem plX2_meetHere_0 (st : Int32) (lf : Int32) (ao : Int32) (sib : Int32) (wr : Rw) (tw : Tk) (cr : Rw) (tr : Tk) (bad : Int32) (r_1 : Int32) (hw_2 : r_1 = FX1_isWithin st sib lf tr cr) (c_7 : ¬ (r_1 = 0)) (x_3 : Int32) (ex_3 : x_3 = tr.1 >>> (3 &&& 31)) (c_27 : ¬ (st = 1)) : 0 = FX2_meetHere st lf ao sib wr tw cr tr bad := by
  subst hw_2
  subst ex_3
  exact ((if_neg c_7).trans (if_neg c_27)).symm
set_option maxRecDepth 100000 in
theorem plX2_meetHere_1 (st : Int32) (lf : Int32) (ao : Int32) (sib : Int32) (wr : Rw) (tw : Tk) (cr : Rw) (tr : Tk) (bad : Int32) (r_1 : Int32) (hw_2 : r_1 = FX1_isWithin st sib lf tr cr) (c_7 : ¬ (r_1 = 0)) (x_3 : Int32) (ex_3 : x_3 = tr.1 >>> (3 &&& 31)) (c_27 : st = 1) (r_4 : Int32) (hw_5 : r_4 = FX1_isAtByte st sib lf tr cr) (c_37 : r_4 = 0) : 0 = FX2_meetHere st lf ao sib wr tw cr tr bad := by
  subst hw_2
  subst ex_3
  subst hw_5
  exact (((if_neg c_7).trans (if_pos c_27)).trans (if_pos c_37)).symm
set_option maxRecDepth 100000 in
theorem plX2_meetHere_2 (st : Int32) (lf : Int32) (ao : Int32) (sib : Int32) (wr : Rw) (tw : Tk) (cr : Rw) (tr : Tk) (bad : Int32) (r_1 : Int32) (hw_2 : r_1 = FX1_isWithin st sib lf tr cr) (c_7 : ¬ (r_1 = 0)) (x_3 : Int32) (ex_3 : x_3 = tr.1 >>> (3 &&& 31)) (c_27 : st = 1) (r_4 : Int32) (hw_5 : r_4 = FX1_isAtByte st sib lf tr cr) (c_37 : ¬ (r_4 = 0)) (r_6 : Int32) (hw_7 : r_6 = FX0_byteOf lf cr x_3) (c_51 : r_6 = 255) (c_66 : (x_3 + 1) < cr.2) (r_8 : Int32) (hw_9 : r_8 = FX0_isMarkAt lf cr x_3) (c_79 : r_8 = 0) : 0 = FX2_meetHere st lf ao sib wr tw cr tr bad := by
  subst hw_2
  subst ex_3
  subst hw_5
  subst hw_7
  subst hw_9
  exact ((((((if_neg c_7).trans (if_pos c_27)).trans (if_neg c_37)).trans (if_pos c_51)).trans (if_pos c_66)).trans (if_pos c_79)).symm
set_option maxRecDepth 100000 in
theorem plX2_meetHere_3 (st : Int32) (lf : Int32) (ao : Int32) (sib : Int32) (wr : Rw) (tw : Tk) (cr : Rw) (tr : Tk) (bad : Int32) (r_1 : Int32) (hw_2 : r_1 = FX1_isWithin st sib lf tr cr) (c_7 : ¬ (r_1 = 0)) (x_3 : Int32) (ex_3 : x_3 = tr.1 >>> (3 &&& 31)) (c_27 : st = 1) (r_4 : Int32) (hw_5 : r_4 = FX1_isAtByte st sib lf tr cr) (c_37 : ¬ (r_4 = 0)) (r_6 : Int32) (hw_7 : r_6 = FX0_byteOf lf cr x_3) (c_51 : r_6 = 255) (c_66 : (x_3 + 1) < cr.2) (r_8 : Int32) (hw_9 : r_8 = FX0_isMarkAt lf cr x_3) (c_79 : ¬ (r_8 = 0)) : (-2) = FX2_meetHere st lf ao sib wr tw cr tr bad := by
  subst hw_2
  subst ex_3
  subst hw_5
  subst hw_7
  subst hw_9
  exact ((((((if_neg c_7).trans (if_pos c_27)).trans (if_neg c_37)).trans (if_pos c_51)).trans (if_pos c_66)).trans (if_neg c_79)).symm
set_option maxRecDepth 100000 in
theorem plX2_meetHere_4 (st : Int32) (lf : Int32) (ao : Int32) (sib : Int32) (wr : Rw) (tw : Tk) (cr : Rw) (tr : Tk) (bad : Int32) (r_1 : Int32) (hw_2 : r_1 = FX1_isWithin st sib lf tr cr) (c_7 : ¬ (r_1 = 0)) (x_3 : Int32) (ex_3 : x_3 = tr.1 >>> (3 &&& 31)) (c_27 : st = 1) (r_4 : Int32) (hw_5 : r_4 = FX1_isAtByte st sib lf tr cr) (c_37 : ¬ (r_4 = 0)) (r_6 : Int32) (hw_7 : r_6 = FX0_byteOf lf cr x_3) (c_51 : r_6 = 255) (c_66 : ¬ ((x_3 + 1) < cr.2)) : (-1) = FX2_meetHere st lf ao sib wr tw cr tr bad := by
  subst hw_2
  subst ex_3
  subst hw_5
  subst hw_7
  exact (((((if_neg c_7).trans (if_pos c_27)).trans (if_neg c_37)).trans (if_pos c_51)).trans (if_neg c_66)).symm
set_option maxRecDepth 100000 in
theorem plX2_meetHere_5 (st : Int32) (lf : Int32) (ao : Int32) (sib : Int32) (wr : Rw) (tw : Tk) (cr : Rw) (tr : Tk) (bad : Int32) (r_1 : Int32) (hw_2 : r_1 = FX1_isWithin st sib lf tr cr) (c_7 : ¬ (r_1 = 0)) (x_3 : Int32) (ex_3 : x_3 = tr.1 >>> (3 &&& 31)) (c_27 : st = 1) (r_4 : Int32) (hw_5 : r_4 = FX1_isAtByte st sib lf tr cr) (c_37 : ¬ (r_4 = 0)) (r_6 : Int32) (hw_7 : r_6 = FX0_byteOf lf cr x_3) (c_51 : ¬ (r_6 = 255)) : 0 = FX2_meetHere st lf ao sib wr tw cr tr bad := by
  subst hw_2
  subst ex_3
  subst hw_5
  subst hw_7
  exact ((((if_neg c_7).trans (if_pos c_27)).trans (if_neg c_37)).trans (if_neg c_51)).symm
set_option maxRecDepth 100000 in
theorem plX2_meetHere_6 (st : Int32) (lf : Int32) (ao : Int32) (sib : Int32) (wr : Rw) (tw : Tk) (cr : Rw) (tr : Tk) (bad : Int32) (r_1 : Int32) (hw_2 : r_1 = FX1_isWithin st sib lf tr cr) (c_7 : r_1 = 0) : (-1) = FX2_meetHere st lf ao sib wr tw cr tr bad := by
  subst hw_2
  exact (if_pos c_7).symm
set_option maxHeartbeats 4000000 in
set_option maxRecDepth 100000 in
theorem mX2_meetHere (l : Launch) (dC : Nat → ClassId) (dI : Nat → Nat → Nat) (cIw cIc : ClassId) (ox ow oaw og oc oac od : Nat) (st : Int32) (lf : Int32) (ao : Int32) (sib : Int32) (wr : Rw) (tw : Tk) (cr : Rw) (tr : Tk) (bad : Int32) : Met l yX2_meetHere (Cond.code yX2_meetHere cX2_meetHere 2 (some .int) :: G) ({ frames := 2, cells := 0, slots := 0, locals := 42 } : Room) (va_Pc [.ref ox] (fun U => va_P (dC, dI) vwCl [(ox, .inr (2, [.int st, .int lf, .int ao, .ref ow, .ref og, .ref oc, .ref od, .int bad])), (ow, .inr (0, [.int lf, .ref oaw, .int wr.2])), (oaw, .inl (cIw, 600, .inl wr.1)), (og, .inr (1, [.ref ow, .int st, .int sib, .int tw.1, .int tw.2.1, .int tw.2.2.1, .int tw.2.2.2])), (oc, .inr (0, [.int lf, .ref oac, .int cr.2])), (oac, .inl (cIc, 600, .inl cr.1)), (od, .inr (1, [.ref oc, .int st, .int sib, .int tr.1, .int tr.2.1, .int tr.2.2.1, .int tr.2.2.2]))] U.heap ∧ va_K (dC, dI) vwCl [(cIw, .int), (cIc, .int)] U ∧ zOk U)) (vp_Si (fun r => r = (FX2_meetHere st lf ao sib wr tw cr tr bad))) 0 0 (fun _ => False) := by
  refine Met.ofW (cc := cX2_meetHere) (maxL := 2) (ret := (some .int)) (by decide) rfl ?_
  intro p e s m args below meth c s₁ B hml hv
  obtain ⟨rfl, hP, hK, hZ⟩ := hv
  have hx := B.exec
  have hb := B.bytes
  have hr := B.returns
  have hts : ∀ w ∈ G, w.before [.ref ox].toArray s = true := fun w h => atoms_spec (ws := (Cond.code yX2_meetHere cX2_meetHere 2 (some .int) :: G)) B.pre w (List.mem_cons_of_mem _ h)
  have hown : s.vm.findClass RX2 = some m.cls := findClass_of_methodNamed B.named
  have hlocks := B.notSynchronized
  have hl := lv_entry ([.ref ox]) (n := 2) (Nat.le_of_ble_eq_true rfl)
  rw [lg_entry_eq]
  generalize (lg_sl ([.ref ox]) ++ List.replicate (2 - (lg_sl ([.ref ox])).length) Slot.unset).toArray = ls at hl ⊢
  have hl : lv_has ls 2 [(0, .ref ox)] := hl
  refine lv_aload_n hx hb dX2_meetHere_0 rfl (lv_at hl 0 rfl) ?_
  refine va_get (D := (dC, dI)) (ci := 2) (v := .ref od) (C := RX2) (T := TX2) (N := 8) hx hb hts inGX2 hown hK hP 0 rfl rfl 6 (by decide) (hts _ wd104) (fun _ h9 => h9) rfl dX2_meetHere_1 ?_
  have hPc := hP.sub (ws' := [(od, .inr (1, [.ref oc, .int st, .int sib, .int tr.1, .int tr.2.1, .int tr.2.2.1, .int tr.2.2.2])), (oc, .inr (0, [.int lf, .ref oac, .int cr.2])), (oac, .inl (cIc, 600, .inl cr.1))]) [6, 4, 5] rfl
  have hKc := hK.sub (tys' := [(cIc, .int)]) [1] rfl
  refine vp_callSi (va_Run.run (va_runV (As := []) (rest := []) ⟨hx, hb, hml, hown, hts⟩ (mX1_isWithin l dC dI cIc od oc oac st sib lf tr cr) (cwV 0 hts (gV wd398 wd399 wd400 wd29 wd401) rfl rfl rfl (by decide +kernel) ⟨Nat.le_of_ble_eq_true rfl, Nat.le_of_ble_eq_true rfl⟩) ⟨fb_ro, va_recv hKc hPc (ci := 1) (q0 := 0) rfl rfl, pre_ro hPc hKc hZ⟩ rfl rfl hl.1 rfl (lv_room (Nat.le_of_ble_eq_true rfl)) dX2_meetHere_4 ⟨Nat.le_of_ble_eq_true rfl, Nat.le_of_ble_eq_true rfl⟩)) (fun r_1 hw_2 => ?_)
  refine lv_if_ne (tgt := 12) hx hb dX2_meetHere_7 (by decide) (fun c_7 => ?_) (fun c_7 => ?_)
  · refine lv_aload_n hx hb dX2_meetHere_12 rfl (lv_at hl 0 rfl) ?_
    refine va_get (D := (dC, dI)) (ci := 2) (v := .ref od) (C := RX2) (T := TX2) (N := 8) hx hb hts inGX2 hown hK hP 0 rfl rfl 6 (by decide) (hts _ wd104) (fun _ h9 => h9) rfl dX2_meetHere_13 ?_
    refine va_getN (D := (dC, dI)) (ci := 1) (v := .int tr.1) (C := RX1) (T := TX1) (N := 7) hx hb hts inGX1 hown hK hP 6 rfl rfl 3 (by decide) (hZ.use zw2 rfl) (fun _ h9 => h9) rfl dX2_meetHere_16 ?_
    refine lv_iconst (v := 3) hx hb dX2_meetHere_19 (by decide) ?_
    refine lv_ishr hx hb dX2_meetHere_20 ?_
    refine lv_topi (fun x_3 ex_3 => ?_)
    refine lv_istore_n (lv' := [(1, .int x_3), (0, .ref ox)]) hx hb dX2_meetHere_21 rfl hl (by decide) rfl (fun ls hl => ?_)
    refine lv_aload_n hx hb dX2_meetHere_22 rfl (lv_at hl 1 rfl) ?_
    refine va_get (D := (dC, dI)) (ci := 2) (v := .int st) (C := RX2) (T := TX2) (N := 8) hx hb hts inGX2 hown hK hP 0 rfl rfl 0 (by decide) (hts _ wd98) (fun _ h9 => h9) rfl dX2_meetHere_23 ?_
    refine lv_iconst (v := 1) hx hb dX2_meetHere_26 (by decide) ?_
    refine lv_icmp_ne (tgt := 54) hx hb dX2_meetHere_27 (by decide) (fun c_27 => ?_) (fun c_27 => ?_)
    · refine lv_iconst (v := 0) hx hb dX2_meetHere_54 (by decide) ?_
      exact W.iret (v := 0) hx hb hr (fun t ht hW => ⟨0, rfl, (plX2_meetHere_0 st lf ao sib wr tw cr tr bad _ hw_2 c_7 _ ex_3 c_27), ht⟩) (fun q h => nomatch h) dX2_meetHere_55
    · refine lv_aload_n hx hb dX2_meetHere_30 rfl (lv_at hl 1 rfl) ?_
      refine va_get (D := (dC, dI)) (ci := 2) (v := .ref od) (C := RX2) (T := TX2) (N := 8) hx hb hts inGX2 hown hK hP 0 rfl rfl 6 (by decide) (hts _ wd104) (fun _ h9 => h9) rfl dX2_meetHere_31 ?_
      have hPc := hP.sub (ws' := [(od, .inr (1, [.ref oc, .int st, .int sib, .int tr.1, .int tr.2.1, .int tr.2.2.1, .int tr.2.2.2])), (oc, .inr (0, [.int lf, .ref oac, .int cr.2])), (oac, .inl (cIc, 600, .inl cr.1))]) [6, 4, 5] rfl
      have hKc := hK.sub (tys' := [(cIc, .int)]) [1] rfl
      refine vp_callSi (va_Run.run (va_runV (As := []) (rest := []) ⟨hx, hb, hml, hown, hts⟩ (mX1_isAtByte l dC dI cIc od oc oac st sib lf tr cr) (cwV 0 hts (gV wd166 wd132 wd133 wd29 wd134) rfl rfl rfl (by decide +kernel) ⟨Nat.le_of_ble_eq_true rfl, Nat.le_of_ble_eq_true rfl⟩) ⟨fb_ro, va_recv hKc hPc (ci := 1) (q0 := 0) rfl rfl, pre_ro hPc hKc hZ⟩ rfl rfl hl.1 rfl (lv_room (Nat.le_of_ble_eq_true rfl)) dX2_meetHere_34 ⟨Nat.le_of_ble_eq_true rfl, Nat.le_of_ble_eq_true rfl⟩)) (fun r_4 hw_5 => ?_)
      refine lv_if_eq (tgt := 54) hx hb dX2_meetHere_37 (by decide) (fun c_37 => ?_) (fun c_37 => ?_)
      · refine lv_iconst (v := 0) hx hb dX2_meetHere_54 (by decide) ?_
        exact W.iret (v := 0) hx hb hr (fun t ht hW => ⟨0, rfl, (plX2_meetHere_1 st lf ao sib wr tw cr tr bad _ hw_2 c_7 _ ex_3 c_27 _ hw_5 c_37), ht⟩) (fun q h => nomatch h) dX2_meetHere_55
      · refine lv_aload_n hx hb dX2_meetHere_40 rfl (lv_at hl 1 rfl) ?_
        refine va_get (D := (dC, dI)) (ci := 2) (v := .ref oc) (C := RX2) (T := TX2) (N := 8) hx hb hts inGX2 hown hK hP 0 rfl rfl 5 (by decide) (hts _ wd103) (fun _ h9 => h9) rfl dX2_meetHere_41 ?_
        refine lv_iload_n hx hb dX2_meetHere_44 rfl (lv_at hl 0 rfl) ?_
        have hPc := hP.sub (ws' := [(oc, .inr (0, [.int lf, .ref oac, .int cr.2])), (oac, .inl (cIc, 600, .inl cr.1))]) [4, 5] rfl
        have hKc := hK.sub (tys' := [(cIc, .int)]) [1] rfl
        refine vp_callSi (va_Run.run (va_runV (As := [.int x_3]) (rest := []) ⟨hx, hb, hml, hown, hts⟩ (mX0_byteOf l dC dI cIc oc oac lf cr x_3) (cwV 1 hts (gV wd175 wd139 wd140 wd28 wd141) rfl rfl rfl (by decide +kernel) ⟨Nat.le_of_ble_eq_true rfl, Nat.le_of_ble_eq_true rfl⟩) ⟨fb_ro, va_recv hKc hPc (ci := 0) (q0 := 0) rfl rfl, pre_ro hPc hKc hZ⟩ rfl rfl hl.1 rfl (lv_room (Nat.le_of_ble_eq_true rfl)) dX2_meetHere_45 ⟨Nat.le_of_ble_eq_true rfl, Nat.le_of_ble_eq_true rfl⟩)) (fun r_6 hw_7 => ?_)
        refine lv_sipush (v := 255) hx hb dX2_meetHere_48 (by decide) ?_
        refine lv_icmp_eq (tgt := 56) hx hb dX2_meetHere_51 (by decide) (fun c_51 => ?_) (fun c_51 => ?_)
        · refine lv_iload_n hx hb dX2_meetHere_56 rfl (lv_at hl 0 rfl) ?_
          refine lv_iconst (v := 1) hx hb dX2_meetHere_57 (by decide) ?_
          refine lv_iadd hx hb dX2_meetHere_58 ?_
          refine lv_aload_n hx hb dX2_meetHere_59 rfl (lv_at hl 1 rfl) ?_
          refine va_get (D := (dC, dI)) (ci := 2) (v := .ref oc) (C := RX2) (T := TX2) (N := 8) hx hb hts inGX2 hown hK hP 0 rfl rfl 5 (by decide) (hts _ wd103) (fun _ h9 => h9) rfl dX2_meetHere_60 ?_
          refine va_getN (D := (dC, dI)) (ci := 0) (v := .int cr.2) (C := RX0) (T := TX0) (N := 3) hx hb hts inGX0 hown hK hP 4 rfl rfl 2 (by decide) (hZ.use zw1 rfl) (fun _ h9 => h9) rfl dX2_meetHere_63 ?_
          refine lv_icmp_lt (tgt := 71) hx hb dX2_meetHere_66 (by decide) (fun c_66 => ?_) (fun c_66 => ?_)
          · refine lv_aload_n hx hb dX2_meetHere_71 rfl (lv_at hl 1 rfl) ?_
            refine va_get (D := (dC, dI)) (ci := 2) (v := .ref oc) (C := RX2) (T := TX2) (N := 8) hx hb hts inGX2 hown hK hP 0 rfl rfl 5 (by decide) (hts _ wd103) (fun _ h9 => h9) rfl dX2_meetHere_72 ?_
            refine lv_iload_n hx hb dX2_meetHere_75 rfl (lv_at hl 0 rfl) ?_
            have hPc := hP.sub (ws' := [(oc, .inr (0, [.int lf, .ref oac, .int cr.2])), (oac, .inl (cIc, 600, .inl cr.1))]) [4, 5] rfl
            have hKc := hK.sub (tys' := [(cIc, .int)]) [1] rfl
            refine vp_callSi (va_Run.run (va_runV (As := [.int x_3]) (rest := []) ⟨hx, hb, hml, hown, hts⟩ (mX0_isMarkAt l dC dI cIc oc oac lf cr x_3) (cwV 1 hts (gV wd167 wd168 wd169 wd28 wd170) rfl rfl rfl (by decide +kernel) ⟨Nat.le_of_ble_eq_true rfl, Nat.le_of_ble_eq_true rfl⟩) ⟨fb_ro, va_recv hKc hPc (ci := 0) (q0 := 0) rfl rfl, pre_ro hPc hKc hZ⟩ rfl rfl hl.1 rfl (lv_room (Nat.le_of_ble_eq_true rfl)) dX2_meetHere_76 ⟨Nat.le_of_ble_eq_true rfl, Nat.le_of_ble_eq_true rfl⟩)) (fun r_8 hw_9 => ?_)
            refine lv_if_eq (tgt := 87) hx hb dX2_meetHere_79 (by decide) (fun c_79 => ?_) (fun c_79 => ?_)
            · refine lv_iconst (v := 0) hx hb dX2_meetHere_87 (by decide) ?_
              exact W.iret (v := 0) hx hb hr (fun t ht hW => ⟨0, rfl, (plX2_meetHere_2 st lf ao sib wr tw cr tr bad _ hw_2 c_7 _ ex_3 c_27 _ hw_5 c_37 _ hw_7 c_51 c_66 _ hw_9 c_79), ht⟩) (fun q h => nomatch h) dX2_meetHere_88
            · refine lv_bipush (v := (-2)) hx hb dX2_meetHere_82 (by decide) ?_
              refine lv_goto (tgt := 88) hx hb dX2_meetHere_84 (by decide) ?_
              exact W.iret (v := (-2)) hx hb hr (fun t ht hW => ⟨(-2), rfl, (plX2_meetHere_3 st lf ao sib wr tw cr tr bad _ hw_2 c_7 _ ex_3 c_27 _ hw_5 c_37 _ hw_7 c_51 c_66 _ hw_9 c_79), ht⟩) (fun q h => nomatch h) dX2_meetHere_88
          · refine lv_iconst (v := (-1)) hx hb dX2_meetHere_69 (by decide) ?_
            exact W.iret (v := (-1)) hx hb hr (fun t ht hW => ⟨(-1), rfl, (plX2_meetHere_4 st lf ao sib wr tw cr tr bad _ hw_2 c_7 _ ex_3 c_27 _ hw_5 c_37 _ hw_7 c_51 c_66), ht⟩) (fun q h => nomatch h) dX2_meetHere_70
        · refine lv_iconst (v := 0) hx hb dX2_meetHere_54 (by decide) ?_
          exact W.iret (v := 0) hx hb hr (fun t ht hW => ⟨0, rfl, (plX2_meetHere_5 st lf ao sib wr tw cr tr bad _ hw_2 c_7 _ ex_3 c_27 _ hw_5 c_37 _ hw_7 c_51), ht⟩) (fun q h => nomatch h) dX2_meetHere_55
  · refine lv_iconst (v := (-1)) hx hb dX2_meetHere_10 (by decide) ?_
    exact W.iret (v := (-1)) hx hb hr (fun t ht hW => ⟨(-1), rfl, (plX2_meetHere_6 st lf ao sib wr tw cr tr bad _ hw_2 c_7), ht⟩) (fun q h => nomatch h) dX2_meetHere_11
def FX2_readStuffedIfDue (st : Int32) (lf : Int32) (ao : Int32) (sib : Int32) (wr : Rw) (tw : Tk) (cr : Rw) (tr : Tk) (bad : Int32) : Int32 × Tk :=
  let r_1 := FX1_isStuffedDue st sib lf tr cr
  if r_1 = 0 then
    (0, tr)
  else
    let r_3 := FX1_isWithin st sib lf tr cr
    if r_3 = 0 then
      ((-1), tr)
    else
      let r_5 := FX0_bitOf lf cr tr.1
      if r_5 = 0 then
        let u_8 := FX1_stepOverStuffed st sib lf tr cr
        (0, u_8)
      else
        ((-3), tr)
set_option maxRecDepth 100000 in
theorem plX2_readStuffedIfDue_0 (st : Int32) (lf : Int32) (ao : Int32) (sib : Int32) (wr : Rw) (tw : Tk) (cr : Rw) (tr : Tk) (bad : Int32) (r_1 : Int32) (hw_2 : r_1 = FX1_isStuffedDue st sib lf tr cr) (c_7 : ¬ (r_1 = 0)) (r_3 : Int32) (hw_4 : r_3 = FX1_isWithin st sib lf tr cr) (c_19 : ¬ (r_3 = 0)) (r_5 : Int32) (hw_6 : r_5 = FX0_bitOf lf cr tr.1) (c_38 : r_5 = 0) (u_8 : Tk) (hw_7 : u_8 = FX1_stepOverStuffed st sib lf tr cr) : (0, u_8) = FX2_readStuffedIfDue st lf ao sib wr tw cr tr bad := by
  subst hw_2
  subst hw_4
  subst hw_6
  subst hw_7
  exact (((if_neg c_7).trans (if_neg c_19)).trans (if_pos c_38)).symm
set_option maxRecDepth 100000 in
theorem plX2_readStuffedIfDue_1 (st : Int32) (lf : Int32) (ao : Int32) (sib : Int32) (wr : Rw) (tw : Tk) (cr : Rw) (tr : Tk) (bad : Int32) (r_1 : Int32) (hw_2 : r_1 = FX1_isStuffedDue st sib lf tr cr) (c_7 : ¬ (r_1 = 0)) (r_3 : Int32) (hw_4 : r_3 = FX1_isWithin st sib lf tr cr) (c_19 : ¬ (r_3 = 0)) (r_5 : Int32) (hw_6 : r_5 = FX0_bitOf lf cr tr.1) (c_38 : ¬ (r_5 = 0)) : ((-3), tr) = FX2_readStuffedIfDue st lf ao sib wr tw cr tr bad := by
  subst hw_2
  subst hw_4
  subst hw_6
  exact (((if_neg c_7).trans (if_neg c_19)).trans (if_neg c_38)).symm
set_option maxRecDepth 100000 in
theorem plX2_readStuffedIfDue_2 (st : Int32) (lf : Int32) (ao : Int32) (sib : Int32) (wr : Rw) (tw : Tk) (cr : Rw) (tr : Tk) (bad : Int32) (r_1 : Int32) (hw_2 : r_1 = FX1_isStuffedDue st sib lf tr cr) (c_7 : ¬ (r_1 = 0)) (r_3 : Int32) (hw_4 : r_3 = FX1_isWithin st sib lf tr cr) (c_19 : r_3 = 0) : ((-1), tr) = FX2_readStuffedIfDue st lf ao sib wr tw cr tr bad := by
  subst hw_2
  subst hw_4
  exact ((if_neg c_7).trans (if_pos c_19)).symm
set_option maxRecDepth 100000 in
theorem plX2_readStuffedIfDue_3 (st : Int32) (lf : Int32) (ao : Int32) (sib : Int32) (wr : Rw) (tw : Tk) (cr : Rw) (tr : Tk) (bad : Int32) (r_1 : Int32) (hw_2 : r_1 = FX1_isStuffedDue st sib lf tr cr) (c_7 : r_1 = 0) : (0, tr) = FX2_readStuffedIfDue st lf ao sib wr tw cr tr bad := by
  subst hw_2
  exact (if_pos c_7).symm
set_option maxHeartbeats 4000000 in
set_option maxRecDepth 100000 in
theorem mX2_readStuffedIfDue (l : Launch) (dC : Nat → ClassId) (dI : Nat → Nat → Nat) (cIw cIc : ClassId) (ox ow oaw og oc oac od : Nat) (sz : Nat) (st : Int32) (lf : Int32) (ao : Int32) (sib : Int32) (wr : Rw) (tw : Tk) (cr : Rw) (tr : Tk) (bad : Int32) : Met l yX2_readStuffedIfDue (Cond.code yX2_readStuffedIfDue cX2_readStuffedIfDue 1 (some .int) :: G) ({ frames := 3, cells := 0, slots := 0, locals := 62 } : Room) (va_Pc [.ref ox] (fun U => U.heap.size = sz ∧ va_P (dC, dI) vwCl [(ox, .inr (2, [.int st, .int lf, .int ao, .ref ow, .ref og, .ref oc, .ref od, .int bad])), (ow, .inr (0, [.int lf, .ref oaw, .int wr.2])), (oaw, .inl (cIw, 600, .inl wr.1)), (og, .inr (1, [.ref ow, .int st, .int sib, .int tw.1, .int tw.2.1, .int tw.2.2.1, .int tw.2.2.2])), (oc, .inr (0, [.int lf, .ref oac, .int cr.2])), (oac, .inl (cIc, 600, .inl cr.1)), (od, .inr (1, [.ref oc, .int st, .int sib, .int tr.1, .int tr.2.1, .int tr.2.2.1, .int tr.2.2.2]))] U.heap ∧ va_K (dC, dI) vwCl [(cIw, .int), (cIc, .int)] U ∧ va_D (fun _ => True) [(ox, .inr (2, [.int st, .int lf, .int ao, .ref ow, .ref og, .ref oc, .ref od, .int bad])), (ow, .inr (0, [.int lf, .ref oaw, .int wr.2])), (oaw, .inl (cIw, 600, .inl wr.1)), (og, .inr (1, [.ref ow, .int st, .int sib, .int tw.1, .int tw.2.1, .int tw.2.2.1, .int tw.2.2.2])), (oc, .inr (0, [.int lf, .ref oac, .int cr.2])), (oac, .inl (cIc, 600, .inl cr.1)), (od, .inr (1, [.ref oc, .int st, .int sib, .int tr.1, .int tr.2.1, .int tr.2.2.1, .int tr.2.2.2]))] ∧ zOk U)) (va_Qi (fun (r : Int32) (u : Tk) => (r, u) = (FX2_readStuffedIfDue st lf ao sib wr tw cr tr bad)) (fun (u : Tk) (t : State) => va_P (dC, dI) vwCl [(ox, .inr (2, [.int st, .int lf, .int ao, .ref ow, .ref og, .ref oc, .ref od, .int bad])), (ow, .inr (0, [.int lf, .ref oaw, .int wr.2])), (oaw, .inl (cIw, 600, .inl wr.1)), (og, .inr (1, [.ref ow, .int st, .int sib, .int tw.1, .int tw.2.1, .int tw.2.2.1, .int tw.2.2.2])), (oc, .inr (0, [.int lf, .ref oac, .int cr.2])), (oac, .inl (cIc, 600, .inl cr.1)), (od, .inr (1, [.ref oc, .int st, .int sib, .int u.1, .int u.2.1, .int u.2.2.1, .int u.2.2.2]))] t.heap ∧ va_D (va_A [(ox, .inr (2, [.int st, .int lf, .int ao, .ref ow, .ref og, .ref oc, .ref od, .int bad])), (ow, .inr (0, [.int lf, .ref oaw, .int wr.2])), (oaw, .inl (cIw, 600, .inl wr.1)), (og, .inr (1, [.ref ow, .int st, .int sib, .int tw.1, .int tw.2.1, .int tw.2.2.1, .int tw.2.2.2])), (oc, .inr (0, [.int lf, .ref oac, .int cr.2])), (oac, .inl (cIc, 600, .inl cr.1)), (od, .inr (1, [.ref oc, .int st, .int sib, .int tr.1, .int tr.2.1, .int tr.2.2.1, .int tr.2.2.2]))] sz) [(ox, .inr (2, [.int st, .int lf, .int ao, .ref ow, .ref og, .ref oc, .ref od, .int bad])), (ow, .inr (0, [.int lf, .ref oaw, .int wr.2])), (oaw, .inl (cIw, 600, .inl wr.1)), (og, .inr (1, [.ref ow, .int st, .int sib, .int tw.1, .int tw.2.1, .int tw.2.2.1, .int tw.2.2.2])), (oc, .inr (0, [.int lf, .ref oac, .int cr.2])), (oac, .inl (cIc, 600, .inl cr.1)), (od, .inr (1, [.ref oc, .int st, .int sib, .int u.1, .int u.2.1, .int u.2.2.1, .int u.2.2.2]))]) (va_A [(ox, .inr (2, [.int st, .int lf, .int ao, .ref ow, .ref og, .ref oc, .ref od, .int bad])), (ow, .inr (0, [.int lf, .ref oaw, .int wr.2])), (oaw, .inl (cIw, 600, .inl wr.1)), (og, .inr (1, [.ref ow, .int st, .int sib, .int tw.1, .int tw.2.1, .int tw.2.2.1, .int tw.2.2.2])), (oc, .inr (0, [.int lf, .ref oac, .int cr.2])), (oac, .inl (cIc, 600, .inl cr.1)), (od, .inr (1, [.ref oc, .int st, .int sib, .int tr.1, .int tr.2.1, .int tr.2.2.1, .int tr.2.2.2]))] sz)) 0 0 (va_A [(ox, .inr (2, [.int st, .int lf, .int ao, .ref ow, .ref og, .ref oc, .ref od, .int bad])), (ow, .inr (0, [.int lf, .ref oaw, .int wr.2])), (oaw, .inl (cIw, 600, .inl wr.1)), (og, .inr (1, [.ref ow, .int st, .int sib, .int tw.1, .int tw.2.1, .int tw.2.2.1, .int tw.2.2.2])), (oc, .inr (0, [.int lf, .ref oac, .int cr.2])), (oac, .inl (cIc, 600, .inl cr.1)), (od, .inr (1, [.ref oc, .int st, .int sib, .int tr.1, .int tr.2.1, .int tr.2.2.1, .int tr.2.2.2]))] sz) := by
  refine Met.ofW (cc := cX2_readStuffedIfDue) (maxL := 1) (ret := (some .int)) (by decide) rfl ?_
  intro p e s m args below meth c s₁ B hml hv
  obtain ⟨rfl, hsz, hP, hK, hD0, hZ⟩ := hv
  have hx := B.exec
  have hb := B.bytes
  have hr := B.returns
  have hts : ∀ w ∈ G, w.before [.ref ox].toArray s = true := fun w h => atoms_spec (ws := (Cond.code yX2_readStuffedIfDue cX2_readStuffedIfDue 1 (some .int) :: G)) B.pre w (List.mem_cons_of_mem _ h)
  have hown : s.vm.findClass RX2 = some m.cls := findClass_of_methodNamed B.named
  have hlocks := B.notSynchronized
  subst hsz
  have hD := hD0.self (sz := s.heap.size)
  generalize hAe : va_A [(ox, .inr (2, [.int st, .int lf, .int ao, .ref ow, .ref og, .ref oc, .ref od, .int bad])), (ow, .inr (0, [.int lf, .ref oaw, .int wr.2])), (oaw, .inl (cIw, 600, .inl wr.1)), (og, .inr (1, [.ref ow, .int st, .int sib, .int tw.1, .int tw.2.1, .int tw.2.2.1, .int tw.2.2.2])), (oc, .inr (0, [.int lf, .ref oac, .int cr.2])), (oac, .inl (cIc, 600, .inl cr.1)), (od, .inr (1, [.ref oc, .int st, .int sib, .int tr.1, .int tr.2.1, .int tr.2.2.1, .int tr.2.2.2]))] s.heap.size = A at hD ⊢
  have hA : ∀ q : Nat, s.heap.size ≤ q → A q := fun q h => by rw [← hAe]; exact Or.inr h
  have hS : va_S A s.heap s.heap [] := va_S.rf
  have hP : va_P (dC, dI) vwCl [(ox, .inr (2, [.int st, .int lf, .int ao, .ref ow, .ref og, .ref oc, .ref od, .int bad])), (ow, .inr (0, [.int lf, .ref oaw, .int wr.2])), (oaw, .inl (cIw, 600, .inl wr.1)), (og, .inr (1, [.ref ow, .int st, .int sib, .int tw.1, .int tw.2.1, .int tw.2.2.1, .int tw.2.2.2])), (oc, .inr (0, [.int lf, .ref oac, .int cr.2])), (oac, .inl (cIc, 600, .inl cr.1)), (od, .inr (1, [.ref oc, .int st, .int sib, .int tr.1, .int tr.2.1, .int tr.2.2.1, .int tr.2.2.2]))] s.heap := hP
  have hl := lv_entry ([.ref ox]) (n := 1) (Nat.le_of_ble_eq_true rfl)
  rw [lg_entry_eq]
  generalize (lg_sl ([.ref ox]) ++ List.replicate (1 - (lg_sl ([.ref ox])).length) Slot.unset).toArray = ls at hl ⊢
  have hl : lv_has ls 1 [(0, .ref ox)] := hl
  refine lv_aload_n hx hb dX2_readStuffedIfDue_0 rfl (lv_at hl 0 rfl) ?_
  refine va_get (D := (dC, dI)) (ci := 2) (v := .ref od) (C := RX2) (T := TX2) (N := 8) hx hb hts inGX2 hown hK hP 0 rfl rfl 6 (by decide) (hts _ wd104) (fun _ h9 => h9) rfl dX2_readStuffedIfDue_1 ?_
  have hPc := hP.sub (ws' := [(od, .inr (1, [.ref oc, .int st, .int sib, .int tr.1, .int tr.2.1, .int tr.2.2.1, .int tr.2.2.2])), (oc, .inr (0, [.int lf, .ref oac, .int cr.2])), (oac, .inl (cIc, 600, .inl cr.1))]) [6, 4, 5] rfl
  have hKc := hK.sub (tys' := [(cIc, .int)]) [1] rfl
  refine vp_callSi (va_Run.run (va_runV (As := []) (rest := []) ⟨hx, hb, hml, hown, hts⟩ (mX1_isStuffedDue l dC dI cIc od oc oac st sib lf tr cr) (cwV 0 hts (gV wd142 wd143 wd144 wd29 wd145) rfl rfl rfl (by decide +kernel) ⟨Nat.le_of_ble_eq_true rfl, Nat.le_of_ble_eq_true rfl⟩) ⟨fb_ro, va_recv hKc hPc (ci := 1) (q0 := 0) rfl rfl, pre_ro hPc hKc hZ⟩ rfl rfl hl.1 rfl (lv_room (Nat.le_of_ble_eq_true rfl)) dX2_readStuffedIfDue_4 ⟨Nat.le_of_ble_eq_true rfl, Nat.le_of_ble_eq_true rfl⟩)) (fun r_1 hw_2 => ?_)
  refine lv_if_ne (tgt := 12) hx hb dX2_readStuffedIfDue_7 (by decide) (fun c_7 => ?_) (fun c_7 => ?_)
  · refine lv_aload_n hx hb dX2_readStuffedIfDue_12 rfl (lv_at hl 0 rfl) ?_
    refine va_get (D := (dC, dI)) (ci := 2) (v := .ref od) (C := RX2) (T := TX2) (N := 8) hx hb hts inGX2 hown hK hP 0 rfl rfl 6 (by decide) (hts _ wd104) (fun _ h9 => h9) rfl dX2_readStuffedIfDue_13 ?_
    have hPc := hP.sub (ws' := [(od, .inr (1, [.ref oc, .int st, .int sib, .int tr.1, .int tr.2.1, .int tr.2.2.1, .int tr.2.2.2])), (oc, .inr (0, [.int lf, .ref oac, .int cr.2])), (oac, .inl (cIc, 600, .inl cr.1))]) [6, 4, 5] rfl
    have hKc := hK.sub (tys' := [(cIc, .int)]) [1] rfl
    refine vp_callSi (va_Run.run (va_runV (As := []) (rest := []) ⟨hx, hb, hml, hown, hts⟩ (mX1_isWithin l dC dI cIc od oc oac st sib lf tr cr) (cwV 0 hts (gV wd398 wd399 wd400 wd29 wd401) rfl rfl rfl (by decide +kernel) ⟨Nat.le_of_ble_eq_true rfl, Nat.le_of_ble_eq_true rfl⟩) ⟨fb_ro, va_recv hKc hPc (ci := 1) (q0 := 0) rfl rfl, pre_ro hPc hKc hZ⟩ rfl rfl hl.1 rfl (lv_room (Nat.le_of_ble_eq_true rfl)) dX2_readStuffedIfDue_16 ⟨Nat.le_of_ble_eq_true rfl, Nat.le_of_ble_eq_true rfl⟩)) (fun r_3 hw_4 => ?_)
    refine lv_if_ne (tgt := 24) hx hb dX2_readStuffedIfDue_19 (by decide) (fun c_19 => ?_) (fun c_19 => ?_)
    · refine lv_aload_n hx hb dX2_readStuffedIfDue_24 rfl (lv_at hl 0 rfl) ?_
      refine va_get (D := (dC, dI)) (ci := 2) (v := .ref oc) (C := RX2) (T := TX2) (N := 8) hx hb hts inGX2 hown hK hP 0 rfl rfl 5 (by decide) (hts _ wd103) (fun _ h9 => h9) rfl dX2_readStuffedIfDue_25 ?_
      refine lv_aload_n hx hb dX2_readStuffedIfDue_28 rfl (lv_at hl 0 rfl) ?_
      refine va_get (D := (dC, dI)) (ci := 2) (v := .ref od) (C := RX2) (T := TX2) (N := 8) hx hb hts inGX2 hown hK hP 0 rfl rfl 6 (by decide) (hts _ wd104) (fun _ h9 => h9) rfl dX2_readStuffedIfDue_29 ?_
      refine va_getN (D := (dC, dI)) (ci := 1) (v := .int tr.1) (C := RX1) (T := TX1) (N := 7) hx hb hts inGX1 hown hK hP 6 rfl rfl 3 (by decide) (hZ.use zw2 rfl) (fun _ h9 => h9) rfl dX2_readStuffedIfDue_32 ?_
      have hPc := hP.sub (ws' := [(oc, .inr (0, [.int lf, .ref oac, .int cr.2])), (oac, .inl (cIc, 600, .inl cr.1))]) [4, 5] rfl
      have hKc := hK.sub (tys' := [(cIc, .int)]) [1] rfl
      refine vp_callSi (va_Run.run (va_runV (As := [.int tr.1]) (rest := []) ⟨hx, hb, hml, hown, hts⟩ (mX0_bitOf l dC dI cIc oc oac lf cr tr.1) (cwV 1 hts (gV wd150 wd151 wd152 wd28 wd153) rfl rfl rfl (by decide +kernel) ⟨Nat.le_of_ble_eq_true rfl, Nat.le_of_ble_eq_true rfl⟩) ⟨fb_ro, va_recv hKc hPc (ci := 0) (q0 := 0) rfl rfl, pre_ro hPc hKc hZ⟩ rfl rfl hl.1 rfl (lv_room (Nat.le_of_ble_eq_true rfl)) dX2_readStuffedIfDue_35 ⟨Nat.le_of_ble_eq_true rfl, Nat.le_of_ble_eq_true rfl⟩)) (fun r_5 hw_6 => ?_)
      refine lv_if_eq (tgt := 44) hx hb dX2_readStuffedIfDue_38 (by decide) (fun c_38 => ?_) (fun c_38 => ?_)
      · refine lv_aload_n hx hb dX2_readStuffedIfDue_44 rfl (lv_at hl 0 rfl) ?_
        refine va_get (D := (dC, dI)) (ci := 2) (v := .ref od) (C := RX2) (T := TX2) (N := 8) hx hb hts inGX2 hown hK hP 0 rfl rfl 6 (by decide) (hts _ wd104) (fun _ h9 => h9) rfl dX2_readStuffedIfDue_45 ?_
        have hPc := hP.sub (ws' := [(od, .inr (1, [.ref oc, .int st, .int sib, .int tr.1, .int tr.2.1, .int tr.2.2.1, .int tr.2.2.2])), (oc, .inr (0, [.int lf, .ref oac, .int cr.2])), (oac, .inl (cIc, 600, .inl cr.1))]) [6, 4, 5] rfl
        have hKc := hK.sub (tys' := [(cIc, .int)]) [1] rfl
        have hDc := hD.sub (ws' := [(od, .inr (1, [.ref oc, .int st, .int sib, .int tr.1, .int tr.2.1, .int tr.2.2.1, .int tr.2.2.2])), (oc, .inr (0, [.int lf, .ref oac, .int cr.2])), (oac, .inl (cIc, 600, .inl cr.1))]) [6, 4, 5] (by decide) rfl
        have hFc := va_free (wc := [(od, .inr (1, [.ref oc, .int st, .int sib, .int tr.1, .int tr.2.1, .int tr.2.2.1, .int tr.2.2.2])), (oc, .inr (0, [.int lf, .ref oac, .int cr.2])), (oac, .inl (cIc, 600, .inl cr.1))]) hD hS hA [6, 4, 5] rfl
        refine va_callv (va_runV (As := []) (rest := []) ⟨hx, hb, hml, hown, hts⟩ (mX1_stepOverStuffed l dC dI cIc od oc oac s.heap.size st sib lf tr cr) (cwV 0 hts (gV wd146 wd147 wd148 wd29 wd149) rfl rfl rfl (by decide +kernel) ⟨Nat.le_of_ble_eq_true rfl, Nat.le_of_ble_eq_true rfl⟩) ⟨fb_rw, va_recv hKc hPc (ci := 1) (q0 := 0) rfl rfl, pre_rw hPc hKc hDc hZ⟩ rfl rfl hl.1 rfl (lv_room (Nat.le_of_ble_eq_true rfl)) dX2_readStuffedIfDue_48 ⟨Nat.le_of_ble_eq_true rfl, Nat.le_of_ble_eq_true rfl⟩) hS (fun q _ h => hFc q h) hFc (fun u_8 t H1 locs ht hvm hw_7 hB hz1 hk1 hS => ?_)
        obtain ⟨hP1, hD1⟩ := hB
        rw [ht] at hP1
        obtain ⟨hP, hD⟩ := va_join (wr := [(ox, .inr (2, [.int st, .int lf, .int ao, .ref ow, .ref og, .ref oc, .ref od, .int bad])), (ow, .inr (0, [.int lf, .ref oaw, .int wr.2])), (oaw, .inl (cIw, 600, .inl wr.1)), (og, .inr (1, [.ref ow, .int st, .int sib, .int tw.1, .int tw.2.1, .int tw.2.2.1, .int tw.2.2.2]))]) (w1 := [(od, .inr (1, [.ref oc, .int st, .int sib, .int u_8.1, .int u_8.2.1, .int u_8.2.2.1, .int u_8.2.2.2])), (oc, .inr (0, [.int lf, .ref oac, .int cr.2])), (oac, .inl (cIc, 600, .inl cr.1))]) hP hD [6, 4, 5] [0, 1, 2, 3] rfl rfl (by decide) (by decide) hk1 hFc hP1 hD1
        generalize H1 = H at hP hS ⊢
        have hP : va_P (dC, dI) vwCl [(ox, .inr (2, [.int st, .int lf, .int ao, .ref ow, .ref og, .ref oc, .ref od, .int bad])), (ow, .inr (0, [.int lf, .ref oaw, .int wr.2])), (oaw, .inl (cIw, 600, .inl wr.1)), (og, .inr (1, [.ref ow, .int st, .int sib, .int tw.1, .int tw.2.1, .int tw.2.2.1, .int tw.2.2.2])), (od, .inr (1, [.ref oc, .int st, .int sib, .int u_8.1, .int u_8.2.1, .int u_8.2.2.1, .int u_8.2.2.2])), (oc, .inr (0, [.int lf, .ref oac, .int cr.2])), (oac, .inl (cIc, 600, .inl cr.1))] H := hP
        have hD : va_D A [(ox, .inr (2, [.int st, .int lf, .int ao, .ref ow, .ref og, .ref oc, .ref od, .int bad])), (ow, .inr (0, [.int lf, .ref oaw, .int wr.2])), (oaw, .inl (cIw, 600, .inl wr.1)), (og, .inr (1, [.ref ow, .int st, .int sib, .int tw.1, .int tw.2.1, .int tw.2.2.1, .int tw.2.2.2])), (od, .inr (1, [.ref oc, .int st, .int sib, .int u_8.1, .int u_8.2.1, .int u_8.2.2.1, .int u_8.2.2.2])), (oc, .inr (0, [.int lf, .ref oac, .int cr.2])), (oac, .inl (cIc, 600, .inl cr.1))] := hD
        refine lv_iconst (v := 0) hx hb dX2_readStuffedIfDue_51 (by decide) ?_
        have hP9 := hP.sub (ws' := [(ox, .inr (2, [.int st, .int lf, .int ao, .ref ow, .ref og, .ref oc, .ref od, .int bad])), (ow, .inr (0, [.int lf, .ref oaw, .int wr.2])), (oaw, .inl (cIw, 600, .inl wr.1)), (og, .inr (1, [.ref ow, .int st, .int sib, .int tw.1, .int tw.2.1, .int tw.2.2.1, .int tw.2.2.2])), (oc, .inr (0, [.int lf, .ref oac, .int cr.2])), (oac, .inl (cIc, 600, .inl cr.1)), (od, .inr (1, [.ref oc, .int st, .int sib, .int u_8.1, .int u_8.2.1, .int u_8.2.2.1, .int u_8.2.2.2]))]) [0, 1, 2, 3, 5, 6, 4] rfl
        have hD9 := hD.sub (ws' := [(ox, .inr (2, [.int st, .int lf, .int ao, .ref ow, .ref og, .ref oc, .ref od, .int bad])), (ow, .inr (0, [.int lf, .ref oaw, .int wr.2])), (oaw, .inl (cIw, 600, .inl wr.1)), (og, .inr (1, [.ref ow, .int st, .int sib, .int tw.1, .int tw.2.1, .int tw.2.2.1, .int tw.2.2.2])), (oc, .inr (0, [.int lf, .ref oac, .int cr.2])), (oac, .inl (cIc, 600, .inl cr.1)), (od, .inr (1, [.ref oc, .int st, .int sib, .int u_8.1, .int u_8.2.1, .int u_8.2.2.1, .int u_8.2.2.2]))]) [0, 1, 2, 3, 5, 6, 4] (by decide) rfl
        exact W.iret (v := 0) hx hb hr (fun t ht hW => ⟨⟨0, u_8, rfl, (plX2_readStuffedIfDue_0 st lf ao sib wr tw cr tr bad _ hw_2 c_7 _ hw_4 c_19 _ hw_6 c_38 _ hw_7), by rw [ht]; exact hP9, hD9⟩, hS.F ht⟩) hS.2.2 dX2_readStuffedIfDue_52
      · refine lv_bipush (v := (-3)) hx hb dX2_readStuffedIfDue_41 (by decide) ?_
        have hP9 := hP.sub (ws' := [(ox, .inr (2, [.int st, .int lf, .int ao, .ref ow, .ref og, .ref oc, .ref od, .int bad])), (ow, .inr (0, [.int lf, .ref oaw, .int wr.2])), (oaw, .inl (cIw, 600, .inl wr.1)), (og, .inr (1, [.ref ow, .int st, .int sib, .int tw.1, .int tw.2.1, .int tw.2.2.1, .int tw.2.2.2])), (oc, .inr (0, [.int lf, .ref oac, .int cr.2])), (oac, .inl (cIc, 600, .inl cr.1)), (od, .inr (1, [.ref oc, .int st, .int sib, .int tr.1, .int tr.2.1, .int tr.2.2.1, .int tr.2.2.2]))]) [0, 1, 2, 3, 4, 5, 6] rfl
        have hD9 := hD.sub (ws' := [(ox, .inr (2, [.int st, .int lf, .int ao, .ref ow, .ref og, .ref oc, .ref od, .int bad])), (ow, .inr (0, [.int lf, .ref oaw, .int wr.2])), (oaw, .inl (cIw, 600, .inl wr.1)), (og, .inr (1, [.ref ow, .int st, .int sib, .int tw.1, .int tw.2.1, .int tw.2.2.1, .int tw.2.2.2])), (oc, .inr (0, [.int lf, .ref oac, .int cr.2])), (oac, .inl (cIc, 600, .inl cr.1)), (od, .inr (1, [.ref oc, .int st, .int sib, .int tr.1, .int tr.2.1, .int tr.2.2.1, .int tr.2.2.2]))]) [0, 1, 2, 3, 4, 5, 6] (by decide) rfl
        exact W.iret (v := (-3)) hx hb hr (fun t ht hW => ⟨⟨(-3), tr, rfl, (plX2_readStuffedIfDue_1 st lf ao sib wr tw cr tr bad _ hw_2 c_7 _ hw_4 c_19 _ hw_6 c_38), by rw [ht]; exact hP9, hD9⟩, hS.F ht⟩) hS.2.2 dX2_readStuffedIfDue_43
    · refine lv_iconst (v := (-1)) hx hb dX2_readStuffedIfDue_22 (by decide) ?_
      have hP9 := hP.sub (ws' := [(ox, .inr (2, [.int st, .int lf, .int ao, .ref ow, .ref og, .ref oc, .ref od, .int bad])), (ow, .inr (0, [.int lf, .ref oaw, .int wr.2])), (oaw, .inl (cIw, 600, .inl wr.1)), (og, .inr (1, [.ref ow, .int st, .int sib, .int tw.1, .int tw.2.1, .int tw.2.2.1, .int tw.2.2.2])), (oc, .inr (0, [.int lf, .ref oac, .int cr.2])), (oac, .inl (cIc, 600, .inl cr.1)), (od, .inr (1, [.ref oc, .int st, .int sib, .int tr.1, .int tr.2.1, .int tr.2.2.1, .int tr.2.2.2]))]) [0, 1, 2, 3, 4, 5, 6] rfl
      have hD9 := hD.sub (ws' := [(ox, .inr (2, [.int st, .int lf, .int ao, .ref ow, .ref og, .ref oc, .ref od, .int bad])), (ow, .inr (0, [.int lf, .ref oaw, .int wr.2])), (oaw, .inl (cIw, 600, .inl wr.1)), (og, .inr (1, [.ref ow, .int st, .int sib, .int tw.1, .int tw.2.1, .int tw.2.2.1, .int tw.2.2.2])), (oc, .inr (0, [.int lf, .ref oac, .int cr.2])), (oac, .inl (cIc, 600, .inl cr.1)), (od, .inr (1, [.ref oc, .int st, .int sib, .int tr.1, .int tr.2.1, .int tr.2.2.1, .int tr.2.2.2]))]) [0, 1, 2, 3, 4, 5, 6] (by decide) rfl
      exact W.iret (v := (-1)) hx hb hr (fun t ht hW => ⟨⟨(-1), tr, rfl, (plX2_readStuffedIfDue_2 st lf ao sib wr tw cr tr bad _ hw_2 c_7 _ hw_4 c_19), by rw [ht]; exact hP9, hD9⟩, hS.F ht⟩) hS.2.2 dX2_readStuffedIfDue_23
  · refine lv_iconst (v := 0) hx hb dX2_readStuffedIfDue_10 (by decide) ?_
    have hP9 := hP.sub (ws' := [(ox, .inr (2, [.int st, .int lf, .int ao, .ref ow, .ref og, .ref oc, .ref od, .int bad])), (ow, .inr (0, [.int lf, .ref oaw, .int wr.2])), (oaw, .inl (cIw, 600, .inl wr.1)), (og, .inr (1, [.ref ow, .int st, .int sib, .int tw.1, .int tw.2.1, .int tw.2.2.1, .int tw.2.2.2])), (oc, .inr (0, [.int lf, .ref oac, .int cr.2])), (oac, .inl (cIc, 600, .inl cr.1)), (od, .inr (1, [.ref oc, .int st, .int sib, .int tr.1, .int tr.2.1, .int tr.2.2.1, .int tr.2.2.2]))]) [0, 1, 2, 3, 4, 5, 6] rfl
    have hD9 := hD.sub (ws' := [(ox, .inr (2, [.int st, .int lf, .int ao, .ref ow, .ref og, .ref oc, .ref od, .int bad])), (ow, .inr (0, [.int lf, .ref oaw, .int wr.2])), (oaw, .inl (cIw, 600, .inl wr.1)), (og, .inr (1, [.ref ow, .int st, .int sib, .int tw.1, .int tw.2.1, .int tw.2.2.1, .int tw.2.2.2])), (oc, .inr (0, [.int lf, .ref oac, .int cr.2])), (oac, .inl (cIc, 600, .inl cr.1)), (od, .inr (1, [.ref oc, .int st, .int sib, .int tr.1, .int tr.2.1, .int tr.2.2.1, .int tr.2.2.2]))]) [0, 1, 2, 3, 4, 5, 6] (by decide) rfl
    exact W.iret (v := 0) hx hb hr (fun t ht hW => ⟨⟨0, tr, rfl, (plX2_readStuffedIfDue_3 st lf ao sib wr tw cr tr bad _ hw_2 c_7), by rw [ht]; exact hP9, hD9⟩, hS.F ht⟩) hS.2.2 dX2_readStuffedIfDue_11
def FX2_readBit (st : Int32) (lf : Int32) (ao : Int32) (sib : Int32) (wr : Rw) (tw : Tk) (cr : Rw) (tr : Tk) (bad : Int32) : Int32 × Tk :=
  let r_1 := FX2_meetHere st lf ao sib wr tw cr tr bad
  if r_1 = 0 then
    let zhw_11 := FX2_readStuffedIfDue st lf ao sib wr tw cr tr bad
    let r_10 := zhw_11.1
    let u_12 := zhw_11.2
    if r_10 = 0 then
      let r_13 := FX0_bitOf lf cr u_12.1
      let u_16 := FX1_stepOver st sib lf u_12 cr r_13
      if ao = 0 then
        if r_10 = 0 then
          (r_13, u_16)
        else
          (r_10, u_16)
      else
        let zhw_18 := FX2_readStuffedIfDue st lf ao sib wr tw cr u_16 bad
        let r_17 := zhw_18.1
        let u_19 := zhw_18.2
        if r_17 = 0 then
          (r_13, u_19)
        else
          (r_17, u_19)
    else
      (r_10, u_12)
  else
    if r_1 = 0 then
      let r_3 := FX0_bitOf lf cr tr.1
      let u_6 := FX1_stepOver st sib lf tr cr r_3
      if ao = 0 then
        if r_1 = 0 then
          (r_3, u_6)
        else
          (r_1, u_6)
      else
        let zhw_8 := FX2_readStuffedIfDue st lf ao sib wr tw cr u_6 bad
        let r_7 := zhw_8.1
        let u_9 := zhw_8.2
        if r_7 = 0 then
          (r_3, u_9)
        else
          (r_7, u_9)
    else
      (r_1, tr)
set_option maxRecDepth 100000 in
theorem plX2_readBit_0 (st : Int32) (lf : Int32) (ao : Int32) (sib : Int32) (wr : Rw) (tw : Tk) (cr : Rw) (tr : Tk) (bad : Int32) (r_1 : Int32) (hw_2 : r_1 = FX2_meetHere st lf ao sib wr tw cr tr bad) (c_6 : ¬ (r_1 = 0)) (c_15 : r_1 = 0) (r_3 : Int32) (hw_4 : r_3 = FX0_bitOf lf cr tr.1) (u_6 : Tk) (hw_5 : u_6 = FX1_stepOver st sib lf tr cr r_3) (c_47 : ao = 0) (c_56 : ¬ (r_1 = 0)) : (r_1, u_6) = FX2_readBit st lf ao sib wr tw cr tr bad := by
  subst hw_2
  subst hw_4
  subst hw_5
  exact ((((if_neg c_6).trans (if_pos c_15)).trans (if_pos c_47)).trans (if_neg c_56)).symm
set_option maxRecDepth 100000 in
theorem plX2_readBit_1 (st : Int32) (lf : Int32) (ao : Int32) (sib : Int32) (wr : Rw) (tw : Tk) (cr : Rw) (tr : Tk) (bad : Int32) (r_1 : Int32) (hw_2 : r_1 = FX2_meetHere st lf ao sib wr tw cr tr bad) (c_6 : ¬ (r_1 = 0)) (c_15 : r_1 = 0) (r_3 : Int32) (hw_4 : r_3 = FX0_bitOf lf cr tr.1) (u_6 : Tk) (hw_5 : u_6 = FX1_stepOver st sib lf tr cr r_3) (c_47 : ao = 0) (c_56 : r_1 = 0) : (r_3, u_6) = FX2_readBit st lf ao sib wr tw cr tr bad := by
  subst hw_2
  subst hw_4
  subst hw_5
  exact ((((if_neg c_6).trans (if_pos c_15)).trans (if_pos c_47)).trans (if_pos c_56)).symm
set_option maxRecDepth 100000 in
theorem plX2_readBit_2 (st : Int32) (lf : Int32) (ao : Int32) (sib : Int32) (wr : Rw) (tw : Tk) (cr : Rw) (tr : Tk) (bad : Int32) (r_1 : Int32) (hw_2 : r_1 = FX2_meetHere st lf ao sib wr tw cr tr bad) (c_6 : ¬ (r_1 = 0)) (c_15 : r_1 = 0) (r_3 : Int32) (hw_4 : r_3 = FX0_bitOf lf cr tr.1) (u_6 : Tk) (hw_5 : u_6 = FX1_stepOver st sib lf tr cr r_3) (c_47 : ¬ (ao = 0)) (r_7 : Int32) (u_9 : Tk) (hw_8 : (r_7, u_9) = FX2_readStuffedIfDue st lf ao sib wr tw cr u_6 bad) (c_56 : ¬ (r_7 = 0)) : (r_7, u_9) = FX2_readBit st lf ao sib wr tw cr tr bad := by
  subst hw_2
  subst hw_4
  subst hw_5
  have q0 := congrArg (fun z => z.1) hw_8
  have q1 := congrArg (fun z => z.2) hw_8
  dsimp only at q0 q1
  subst q0
  subst q1
  clear hw_8
  exact ((((if_neg c_6).trans (if_pos c_15)).trans (if_neg c_47)).trans (if_neg c_56)).symm
set_option maxRecDepth 100000 in
theorem plX2_readBit_3 (st : Int32) (lf : Int32) (ao : Int32) (sib : Int32) (wr : Rw) (tw : Tk) (cr : Rw) (tr : Tk) (bad : Int32) (r_1 : Int32) (hw_2 : r_1 = FX2_meetHere st lf ao sib wr tw cr tr bad) (c_6 : ¬ (r_1 = 0)) (c_15 : r_1 = 0) (r_3 : Int32) (hw_4 : r_3 = FX0_bitOf lf cr tr.1) (u_6 : Tk) (hw_5 : u_6 = FX1_stepOver st sib lf tr cr r_3) (c_47 : ¬ (ao = 0)) (r_7 : Int32) (u_9 : Tk) (hw_8 : (r_7, u_9) = FX2_readStuffedIfDue st lf ao sib wr tw cr u_6 bad) (c_56 : r_7 = 0) : (r_3, u_9) = FX2_readBit st lf ao sib wr tw cr tr bad := by
  subst hw_2
  subst hw_4
  subst hw_5
  have q0 := congrArg (fun z => z.1) hw_8
  have q1 := congrArg (fun z => z.2) hw_8
  dsimp only at q0 q1
  subst q0
  subst q1
  clear hw_8
  exact ((((if_neg c_6).trans (if_pos c_15)).trans (if_neg c_47)).trans (if_pos c_56)).symm
set_option maxRecDepth 100000 in
theorem plX2_readBit_4 (st : Int32) (lf : Int32) (ao : Int32) (sib : Int32) (wr : Rw) (tw : Tk) (cr : Rw) (tr : Tk) (bad : Int32) (r_1 : Int32) (hw_2 : r_1 = FX2_meetHere st lf ao sib wr tw cr tr bad) (c_6 : ¬ (r_1 = 0)) (c_15 : ¬ (r_1 = 0)) : (r_1, tr) = FX2_readBit st lf ao sib wr tw cr tr bad := by
  subst hw_2
  exact ((if_neg c_6).trans (if_neg c_15)).symm
set_option maxRecDepth 100000 in
theorem plX2_readBit_5 (st : Int32) (lf : Int32) (ao : Int32) (sib : Int32) (wr : Rw) (tw : Tk) (cr : Rw) (tr : Tk) (bad : Int32) (r_1 : Int32) (hw_2 : r_1 = FX2_meetHere st lf ao sib wr tw cr tr bad) (c_6 : r_1 = 0) (r_10 : Int32) (u_12 : Tk) (hw_11 : (r_10, u_12) = FX2_readStuffedIfDue st lf ao sib wr tw cr tr bad) (c_15 : r_10 = 0) (r_13 : Int32) (hw_14 : r_13 = FX0_bitOf lf cr u_12.1) (u_16 : Tk) (hw_15 : u_16 = FX1_stepOver st sib lf u_12 cr r_13) (c_47 : ao = 0) (c_56 : ¬ (r_10 = 0)) : (r_10, u_16) = FX2_readBit st lf ao sib wr tw cr tr bad := by
  subst hw_2
  have q0 := congrArg (fun z => z.1) hw_11
  have q1 := congrArg (fun z => z.2) hw_11
  dsimp only at q0 q1
  subst q0
  subst q1
  clear hw_11
  subst hw_14
  subst hw_15
  exact ((((if_pos c_6).trans (if_pos c_15)).trans (if_pos c_47)).trans (if_neg c_56)).symm
set_option maxRecDepth 100000 in
theorem plX2_readBit_6 (st : Int32) (lf : Int32) (ao : Int32) (sib : Int32) (wr : Rw) (tw : Tk) (cr : Rw) (tr : Tk) (bad : Int32) (r_1 : Int32) (hw_2 : r_1 = FX2_meetHere st lf ao sib wr tw cr tr bad) (c_6 : r_1 = 0) (r_10 : Int32) (u_12 : Tk) (hw_11 : (r_10, u_12) = FX2_readStuffedIfDue st lf ao sib wr tw cr tr bad) (c_15 : r_10 = 0) (r_13 : Int32) (hw_14 : r_13 = FX0_bitOf lf cr u_12.1) (u_16 : Tk) (hw_15 : u_16 = FX1_stepOver st sib lf u_12 cr r_13) (c_47 : ao = 0) (c_56 : r_10 = 0) : (r_13, u_16) = FX2_readBit st lf ao sib wr tw cr tr bad := by
  subst hw_2
  have q0 := congrArg (fun z => z.1) hw_11
  have q1 := congrArg (fun z => z.2) hw_11
  dsimp only at q0 q1
  subst q0
  subst q1
  clear hw_11
  subst hw_14
  subst hw_15
  exact ((((if_pos c_6).trans (if_pos c_15)).trans (if_pos c_47)).trans (if_pos c_56)).symm
set_option maxRecDepth 100000 in
theorem plX2_readBit_7 (st : Int32) (lf : Int32) (ao : Int32) (sib : Int32) (wr : Rw) (tw : Tk) (cr : Rw) (tr : Tk) (bad : Int32) (r_1 : Int32) (hw_2 : r_1 = FX2_meetHere st lf ao sib wr tw cr tr bad) (c_6 : r_1 = 0) (r_10 : Int32) (u_12 : Tk) (hw_11 : (r_10, u_12) = FX2_readStuffedIfDue st lf ao sib wr tw cr tr bad) (c_15 : r_10 = 0) (r_13 : Int32) (hw_14 : r_13 = FX0_bitOf lf cr u_12.1) (u_16 : Tk) (hw_15 : u_16 = FX1_stepOver st sib lf u_12 cr r_13) (c_47 : ¬ (ao = 0)) (r_17 : Int32) (u_19 : Tk) (hw_18 : (r_17, u_19) = FX2_readStuffedIfDue st lf ao sib wr tw cr u_16 bad) (c_56 : ¬ (r_17 = 0)) : (r_17, u_19) = FX2_readBit st lf ao sib wr tw cr tr bad := by
  subst hw_2
  have q0 := congrArg (fun z => z.1) hw_11
  have q1 := congrArg (fun z => z.2) hw_11
  dsimp only at q0 q1
  subst q0
  subst q1
  clear hw_11
  subst hw_14
  subst hw_15
  have q0 := congrArg (fun z => z.1) hw_18
  have q1 := congrArg (fun z => z.2) hw_18
  dsimp only at q0 q1
  subst q0
  subst q1
  clear hw_18
  exact ((((if_pos c_6).trans (if_pos c_15)).trans (if_neg c_47)).trans (if_neg c_56)).symm
set_option maxRecDepth 100000 in
theorem plX2_readBit_8 (st : Int32) (lf : Int32) (ao : Int32) (sib : Int32) (wr : Rw) (tw : Tk) (cr : Rw) (tr : Tk) (bad : Int32) (r_1 : Int32) (hw_2 : r_1 = FX2_meetHere st lf ao sib wr tw cr tr bad) (c_6 : r_1 = 0) (r_10 : Int32) (u_12 : Tk) (hw_11 : (r_10, u_12) = FX2_readStuffedIfDue st lf ao sib wr tw cr tr bad) (c_15 : r_10 = 0) (r_13 : Int32) (hw_14 : r_13 = FX0_bitOf lf cr u_12.1) (u_16 : Tk) (hw_15 : u_16 = FX1_stepOver st sib lf u_12 cr r_13) (c_47 : ¬ (ao = 0)) (r_17 : Int32) (u_19 : Tk) (hw_18 : (r_17, u_19) = FX2_readStuffedIfDue st lf ao sib wr tw cr u_16 bad) (c_56 : r_17 = 0) : (r_13, u_19) = FX2_readBit st lf ao sib wr tw cr tr bad := by
  subst hw_2
  have q0 := congrArg (fun z => z.1) hw_11
  have q1 := congrArg (fun z => z.2) hw_11
  dsimp only at q0 q1
  subst q0
  subst q1
  clear hw_11
  subst hw_14
  subst hw_15
  have q0 := congrArg (fun z => z.1) hw_18
  have q1 := congrArg (fun z => z.2) hw_18
  dsimp only at q0 q1
  subst q0
  subst q1
  clear hw_18
  exact ((((if_pos c_6).trans (if_pos c_15)).trans (if_neg c_47)).trans (if_pos c_56)).symm
set_option maxRecDepth 100000 in
theorem plX2_readBit_9 (st : Int32) (lf : Int32) (ao : Int32) (sib : Int32) (wr : Rw) (tw : Tk) (cr : Rw) (tr : Tk) (bad : Int32) (r_1 : Int32) (hw_2 : r_1 = FX2_meetHere st lf ao sib wr tw cr tr bad) (c_6 : r_1 = 0) (r_10 : Int32) (u_12 : Tk) (hw_11 : (r_10, u_12) = FX2_readStuffedIfDue st lf ao sib wr tw cr tr bad) (c_15 : ¬ (r_10 = 0)) : (r_10, u_12) = FX2_readBit st lf ao sib wr tw cr tr bad := by
  subst hw_2
  have q0 := congrArg (fun z => z.1) hw_11
  have q1 := congrArg (fun z => z.2) hw_11
  dsimp only at q0 q1
  subst q0
  subst q1
  clear hw_11
  exact ((if_pos c_6).trans (if_neg c_15)).symm
set_option maxHeartbeats 4000000 in
set_option maxRecDepth 100000 in
theorem mX2_readBit (l : Launch) (dC : Nat → ClassId) (dI : Nat → Nat → Nat) (cIw cIc : ClassId) (ox ow oaw og oc oac od : Nat) (sz : Nat) (st : Int32) (lf : Int32) (ao : Int32) (sib : Int32) (wr : Rw) (tw : Tk) (cr : Rw) (tr : Tk) (bad : Int32) : Met l yX2_readBit (Cond.code yX2_readBit cX2_readBit 3 (some .int) :: G) ({ frames := 4, cells := 0, slots := 0, locals := 82 } : Room) (va_Pc [.ref ox] (fun U => U.heap.size = sz ∧ va_P (dC, dI) vwCl [(ox, .inr (2, [.int st, .int lf, .int ao, .ref ow, .ref og, .ref oc, .ref od, .int bad])), (ow, .inr (0, [.int lf, .ref oaw, .int wr.2])), (oaw, .inl (cIw, 600, .inl wr.1)), (og, .inr (1, [.ref ow, .int st, .int sib, .int tw.1, .int tw.2.1, .int tw.2.2.1, .int tw.2.2.2])), (oc, .inr (0, [.int lf, .ref oac, .int cr.2])), (oac, .inl (cIc, 600, .inl cr.1)), (od, .inr (1, [.ref oc, .int st, .int sib, .int tr.1, .int tr.2.1, .int tr.2.2.1, .int tr.2.2.2]))] U.heap ∧ va_K (dC, dI) vwCl [(cIw, .int), (cIc, .int)] U ∧ va_D (fun _ => True) [(ox, .inr (2, [.int st, .int lf, .int ao, .ref ow, .ref og, .ref oc, .ref od, .int bad])), (ow, .inr (0, [.int lf, .ref oaw, .int wr.2])), (oaw, .inl (cIw, 600, .inl wr.1)), (og, .inr (1, [.ref ow, .int st, .int sib, .int tw.1, .int tw.2.1, .int tw.2.2.1, .int tw.2.2.2])), (oc, .inr (0, [.int lf, .ref oac, .int cr.2])), (oac, .inl (cIc, 600, .inl cr.1)), (od, .inr (1, [.ref oc, .int st, .int sib, .int tr.1, .int tr.2.1, .int tr.2.2.1, .int tr.2.2.2]))] ∧ zOk U)) (va_Qi (fun (r : Int32) (u : Tk) => (r, u) = (FX2_readBit st lf ao sib wr tw cr tr bad)) (fun (u : Tk) (t : State) => va_P (dC, dI) vwCl [(ox, .inr (2, [.int st, .int lf, .int ao, .ref ow, .ref og, .ref oc, .ref od, .int bad])), (ow, .inr (0, [.int lf, .ref oaw, .int wr.2])), (oaw, .inl (cIw, 600, .inl wr.1)), (og, .inr (1, [.ref ow, .int st, .int sib, .int tw.1, .int tw.2.1, .int tw.2.2.1, .int tw.2.2.2])), (oc, .inr (0, [.int lf, .ref oac, .int cr.2])), (oac, .inl (cIc, 600, .inl cr.1)), (od, .inr (1, [.ref oc, .int st, .int sib, .int u.1, .int u.2.1, .int u.2.2.1, .int u.2.2.2]))] t.heap ∧ va_D (va_A [(ox, .inr (2, [.int st, .int lf, .int ao, .ref ow, .ref og, .ref oc, .ref od, .int bad])), (ow, .inr (0, [.int lf, .ref oaw, .int wr.2])), (oaw, .inl (cIw, 600, .inl wr.1)), (og, .inr (1, [.ref ow, .int st, .int sib, .int tw.1, .int tw.2.1, .int tw.2.2.1, .int tw.2.2.2])), (oc, .inr (0, [.int lf, .ref oac, .int cr.2])), (oac, .inl (cIc, 600, .inl cr.1)), (od, .inr (1, [.ref oc, .int st, .int sib, .int tr.1, .int tr.2.1, .int tr.2.2.1, .int tr.2.2.2]))] sz) [(ox, .inr (2, [.int st, .int lf, .int ao, .ref ow, .ref og, .ref oc, .ref od, .int bad])), (ow, .inr (0, [.int lf, .ref oaw, .int wr.2])), (oaw, .inl (cIw, 600, .inl wr.1)), (og, .inr (1, [.ref ow, .int st, .int sib, .int tw.1, .int tw.2.1, .int tw.2.2.1, .int tw.2.2.2])), (oc, .inr (0, [.int lf, .ref oac, .int cr.2])), (oac, .inl (cIc, 600, .inl cr.1)), (od, .inr (1, [.ref oc, .int st, .int sib, .int u.1, .int u.2.1, .int u.2.2.1, .int u.2.2.2]))]) (va_A [(ox, .inr (2, [.int st, .int lf, .int ao, .ref ow, .ref og, .ref oc, .ref od, .int bad])), (ow, .inr (0, [.int lf, .ref oaw, .int wr.2])), (oaw, .inl (cIw, 600, .inl wr.1)), (og, .inr (1, [.ref ow, .int st, .int sib, .int tw.1, .int tw.2.1, .int tw.2.2.1, .int tw.2.2.2])), (oc, .inr (0, [.int lf, .ref oac, .int cr.2])), (oac, .inl (cIc, 600, .inl cr.1)), (od, .inr (1, [.ref oc, .int st, .int sib, .int tr.1, .int tr.2.1, .int tr.2.2.1, .int tr.2.2.2]))] sz)) 0 0 (va_A [(ox, .inr (2, [.int st, .int lf, .int ao, .ref ow, .ref og, .ref oc, .ref od, .int bad])), (ow, .inr (0, [.int lf, .ref oaw, .int wr.2])), (oaw, .inl (cIw, 600, .inl wr.1)), (og, .inr (1, [.ref ow, .int st, .int sib, .int tw.1, .int tw.2.1, .int tw.2.2.1, .int tw.2.2.2])), (oc, .inr (0, [.int lf, .ref oac, .int cr.2])), (oac, .inl (cIc, 600, .inl cr.1)), (od, .inr (1, [.ref oc, .int st, .int sib, .int tr.1, .int tr.2.1, .int tr.2.2.1, .int tr.2.2.2]))] sz) := by
  refine Met.ofW (cc := cX2_readBit) (maxL := 3) (ret := (some .int)) (by decide) rfl ?_
  intro p e s m args below meth c s₁ B hml hv
  obtain ⟨rfl, hsz, hP, hK, hD0, hZ⟩ := hv
  have hx := B.exec
  have hb := B.bytes
  have hr := B.returns
  have hts : ∀ w ∈ G, w.before [.ref ox].toArray s = true := fun w h => atoms_spec (ws := (Cond.code yX2_readBit cX2_readBit 3 (some .int) :: G)) B.pre w (List.mem_cons_of_mem _ h)
  have hown : s.vm.findClass RX2 = some m.cls := findClass_of_methodNamed B.named
  have hlocks := B.notSynchronized
  subst hsz
  have hD := hD0.self (sz := s.heap.size)
  generalize hAe : va_A [(ox, .inr (2, [.int st, .int lf, .int ao, .ref ow, .ref og, .ref oc, .ref od, .int bad])), (ow, .inr (0, [.int lf, .ref oaw, .int wr.2])), (oaw, .inl (cIw, 600, .inl wr.1)), (og, .inr (1, [.ref ow, .int st, .int sib, .int tw.1, .int tw.2.1, .int tw.2.2.1, .int tw.2.2.2])), (oc, .inr (0, [.int lf, .ref oac, .int cr.2])), (oac, .inl (cIc, 600, .inl cr.1)), (od, .inr (1, [.ref oc, .int st, .int sib, .int tr.1, .int tr.2.1, .int tr.2.2.1, .int tr.2.2.2]))] s.heap.size = A at hD ⊢
  have hA : ∀ q : Nat, s.heap.size ≤ q → A q := fun q h => by rw [← hAe]; exact Or.inr h
  have hS : va_S A s.heap s.heap [] := va_S.rf
  have hP : va_P (dC, dI) vwCl [(ox, .inr (2, [.int st, .int lf, .int ao, .ref ow, .ref og, .ref oc, .ref od, .int bad])), (ow, .inr (0, [.int lf, .ref oaw, .int wr.2])), (oaw, .inl (cIw, 600, .inl wr.1)), (og, .inr (1, [.ref ow, .int st, .int sib, .int tw.1, .int tw.2.1, .int tw.2.2.1, .int tw.2.2.2])), (oc, .inr (0, [.int lf, .ref oac, .int cr.2])), (oac, .inl (cIc, 600, .inl cr.1)), (od, .inr (1, [.ref oc, .int st, .int sib, .int tr.1, .int tr.2.1, .int tr.2.2.1, .int tr.2.2.2]))] s.heap := hP
  have hl := lv_entry ([.ref ox]) (n := 3) (Nat.le_of_ble_eq_true rfl)
  rw [lg_entry_eq]
  generalize (lg_sl ([.ref ox]) ++ List.replicate (3 - (lg_sl ([.ref ox])).length) Slot.unset).toArray = ls at hl ⊢
  have hl : lv_has ls 3 [(0, .ref ox)] := hl
  refine lv_aload_n hx hb dX2_readBit_0 rfl (lv_at hl 0 rfl) ?_
  have hPc := hP.sub (ws' := [(ox, .inr (2, [.int st, .int lf, .int ao, .ref ow, .ref og, .ref oc, .ref od, .int bad])), (ow, .inr (0, [.int lf, .ref oaw, .int wr.2])), (oaw, .inl (cIw, 600, .inl wr.1)), (og, .inr (1, [.ref ow, .int st, .int sib, .int tw.1, .int tw.2.1, .int tw.2.2.1, .int tw.2.2.2])), (oc, .inr (0, [.int lf, .ref oac, .int cr.2])), (oac, .inl (cIc, 600, .inl cr.1)), (od, .inr (1, [.ref oc, .int st, .int sib, .int tr.1, .int tr.2.1, .int tr.2.2.1, .int tr.2.2.2]))]) [0, 1, 2, 3, 4, 5, 6] rfl
  have hKc := hK.sub (tys' := [(cIw, .int), (cIc, .int)]) [0, 1] rfl
  refine vp_callSi (va_Run.run (va_runV (As := []) (rest := []) ⟨hx, hb, hml, hown, hts⟩ (mX2_meetHere l dC dI cIw cIc ox ow oaw og oc oac od st lf ao sib wr tw cr tr bad) (cwV 0 hts (gV wd395 wd396 wd9 wd26 wd397) rfl rfl rfl (by decide +kernel) ⟨Nat.le_of_ble_eq_true rfl, Nat.le_of_ble_eq_true rfl⟩) ⟨fb_ro, va_recv hKc hPc (ci := 2) (q0 := 0) rfl rfl, pre_ro hPc hKc hZ⟩ rfl rfl hl.1 rfl (lv_room (Nat.le_of_ble_eq_true rfl)) dX2_readBit_1 ⟨Nat.le_of_ble_eq_true rfl, Nat.le_of_ble_eq_true rfl⟩)) (fun r_1 hw_2 => ?_)
  refine lv_istore_n (lv' := [(1, .int r_1), (0, .ref ox)]) hx hb dX2_readBit_4 rfl hl (by decide) rfl (fun ls hl => ?_)
  refine lv_iload_n hx hb dX2_readBit_5 rfl (lv_at hl 0 rfl) ?_
  refine lv_if_ne (tgt := 14) hx hb dX2_readBit_6 (by decide) (fun c_6 => ?_) (fun c_6 => ?_)
  · refine lv_iload_n hx hb dX2_readBit_14 rfl (lv_at hl 0 rfl) ?_
    refine lv_if_eq (tgt := 20) hx hb dX2_readBit_15 (by decide) (fun c_15 => ?_) (fun c_15 => ?_)
    · refine lv_aload_n hx hb dX2_readBit_20 rfl (lv_at hl 1 rfl) ?_
      refine va_get (D := (dC, dI)) (ci := 2) (v := .ref oc) (C := RX2) (T := TX2) (N := 8) hx hb hts inGX2 hown hK hP 0 rfl rfl 5 (by decide) (hts _ wd103) (fun _ h9 => h9) rfl dX2_readBit_21 ?_
      refine lv_aload_n hx hb dX2_readBit_24 rfl (lv_at hl 1 rfl) ?_
      refine va_get (D := (dC, dI)) (ci := 2) (v := .ref od) (C := RX2) (T := TX2) (N := 8) hx hb hts inGX2 hown hK hP 0 rfl rfl 6 (by decide) (hts _ wd104) (fun _ h9 => h9) rfl dX2_readBit_25 ?_
      refine va_getN (D := (dC, dI)) (ci := 1) (v := .int tr.1) (C := RX1) (T := TX1) (N := 7) hx hb hts inGX1 hown hK hP 6 rfl rfl 3 (by decide) (hZ.use zw2 rfl) (fun _ h9 => h9) rfl dX2_readBit_28 ?_
      have hPc := hP.sub (ws' := [(oc, .inr (0, [.int lf, .ref oac, .int cr.2])), (oac, .inl (cIc, 600, .inl cr.1))]) [4, 5] rfl
      have hKc := hK.sub (tys' := [(cIc, .int)]) [1] rfl
      refine vp_callSi (va_Run.run (va_runV (As := [.int tr.1]) (rest := []) ⟨hx, hb, hml, hown, hts⟩ (mX0_bitOf l dC dI cIc oc oac lf cr tr.1) (cwV 1 hts (gV wd150 wd151 wd152 wd28 wd153) rfl rfl rfl (by decide +kernel) ⟨Nat.le_of_ble_eq_true rfl, Nat.le_of_ble_eq_true rfl⟩) ⟨fb_ro, va_recv hKc hPc (ci := 0) (q0 := 0) rfl rfl, pre_ro hPc hKc hZ⟩ rfl rfl hl.1 rfl (lv_room (Nat.le_of_ble_eq_true rfl)) dX2_readBit_31 ⟨Nat.le_of_ble_eq_true rfl, Nat.le_of_ble_eq_true rfl⟩)) (fun r_3 hw_4 => ?_)
      refine lv_istore_n (lv' := [(2, .int r_3), (1, .int r_1), (0, .ref ox)]) hx hb dX2_readBit_34 rfl hl (by decide) rfl (fun ls hl => ?_)
      refine lv_aload_n hx hb dX2_readBit_35 rfl (lv_at hl 2 rfl) ?_
      refine va_get (D := (dC, dI)) (ci := 2) (v := .ref od) (C := RX2) (T := TX2) (N := 8) hx hb hts inGX2 hown hK hP 0 rfl rfl 6 (by decide) (hts _ wd104) (fun _ h9 => h9) rfl dX2_readBit_36 ?_
      refine lv_iload_n hx hb dX2_readBit_39 rfl (lv_at hl 0 rfl) ?_
      have hPc := hP.sub (ws' := [(od, .inr (1, [.ref oc, .int st, .int sib, .int tr.1, .int tr.2.1, .int tr.2.2.1, .int tr.2.2.2])), (oc, .inr (0, [.int lf, .ref oac, .int cr.2])), (oac, .inl (cIc, 600, .inl cr.1))]) [6, 4, 5] rfl
      have hKc := hK.sub (tys' := [(cIc, .int)]) [1] rfl
      have hDc := hD.sub (ws' := [(od, .inr (1, [.ref oc, .int st, .int sib, .int tr.1, .int tr.2.1, .int tr.2.2.1, .int tr.2.2.2])), (oc, .inr (0, [.int lf, .ref oac, .int cr.2])), (oac, .inl (cIc, 600, .inl cr.1))]) [6, 4, 5] (by decide) rfl
      have hFc := va_free (wc := [(od, .inr (1, [.ref oc, .int st, .int sib, .int tr.1, .int tr.2.1, .int tr.2.2.1, .int tr.2.2.2])), (oc, .inr (0, [.int lf, .ref oac, .int cr.2])), (oac, .inl (cIc, 600, .inl cr.1))]) hD hS hA [6, 4, 5] rfl
      refine va_callv (va_runV (As := [.int r_3]) (rest := []) ⟨hx, hb, hml, hown, hts⟩ (mX1_stepOver l dC dI cIc od oc oac s.heap.size st sib lf tr cr r_3) (cwV 1 hts (gV wd158 wd159 wd160 wd29 wd161) rfl rfl rfl (by decide +kernel) ⟨Nat.le_of_ble_eq_true rfl, Nat.le_of_ble_eq_true rfl⟩) ⟨fb_rw, va_recv hKc hPc (ci := 1) (q0 := 0) rfl rfl, pre_rw hPc hKc hDc hZ⟩ rfl rfl hl.1 rfl (lv_room (Nat.le_of_ble_eq_true rfl)) dX2_readBit_40 ⟨Nat.le_of_ble_eq_true rfl, Nat.le_of_ble_eq_true rfl⟩) hS (fun q _ h => hFc q h) hFc (fun u_6 t H1 locs ht hvm hw_5 hB hz1 hk1 hS => ?_)
      obtain ⟨hP1, hD1⟩ := hB
      rw [ht] at hP1
      obtain ⟨hP, hD⟩ := va_join (wr := [(ox, .inr (2, [.int st, .int lf, .int ao, .ref ow, .ref og, .ref oc, .ref od, .int bad])), (ow, .inr (0, [.int lf, .ref oaw, .int wr.2])), (oaw, .inl (cIw, 600, .inl wr.1)), (og, .inr (1, [.ref ow, .int st, .int sib, .int tw.1, .int tw.2.1, .int tw.2.2.1, .int tw.2.2.2]))]) (w1 := [(od, .inr (1, [.ref oc, .int st, .int sib, .int u_6.1, .int u_6.2.1, .int u_6.2.2.1, .int u_6.2.2.2])), (oc, .inr (0, [.int lf, .ref oac, .int cr.2])), (oac, .inl (cIc, 600, .inl cr.1))]) hP hD [6, 4, 5] [0, 1, 2, 3] rfl rfl (by decide) (by decide) hk1 hFc hP1 hD1
      generalize H1 = H at hP hS ⊢
      have hP : va_P (dC, dI) vwCl [(ox, .inr (2, [.int st, .int lf, .int ao, .ref ow, .ref og, .ref oc, .ref od, .int bad])), (ow, .inr (0, [.int lf, .ref oaw, .int wr.2])), (oaw, .inl (cIw, 600, .inl wr.1)), (og, .inr (1, [.ref ow, .int st, .int sib, .int tw.1, .int tw.2.1, .int tw.2.2.1, .int tw.2.2.2])), (od, .inr (1, [.ref oc, .int st, .int sib, .int u_6.1, .int u_6.2.1, .int u_6.2.2.1, .int u_6.2.2.2])), (oc, .inr (0, [.int lf, .ref oac, .int cr.2])), (oac, .inl (cIc, 600, .inl cr.1))] H := hP
      have hD : va_D A [(ox, .inr (2, [.int st, .int lf, .int ao, .ref ow, .ref og, .ref oc, .ref od, .int bad])), (ow, .inr (0, [.int lf, .ref oaw, .int wr.2])), (oaw, .inl (cIw, 600, .inl wr.1)), (og, .inr (1, [.ref ow, .int st, .int sib, .int tw.1, .int tw.2.1, .int tw.2.2.1, .int tw.2.2.2])), (od, .inr (1, [.ref oc, .int st, .int sib, .int u_6.1, .int u_6.2.1, .int u_6.2.2.1, .int u_6.2.2.2])), (oc, .inr (0, [.int lf, .ref oac, .int cr.2])), (oac, .inl (cIc, 600, .inl cr.1))] := hD
      refine lv_aload_n hx hb dX2_readBit_43 rfl (lv_at hl 2 rfl) ?_
      refine va_get (D := (dC, dI)) (ci := 2) (v := .int ao) (C := RX2) (T := TX2) (N := 8) hx hb hts inGX2 hown hK hP 0 rfl rfl 2 (by decide) (hts _ wd100) (fun _ h9 => h9) rfl dX2_readBit_44 ?_
      refine lv_if_eq (tgt := 55) hx hb dX2_readBit_47 (by decide) (fun c_47 => ?_) (fun c_47 => ?_)
      · refine lv_iload_n hx hb dX2_readBit_55 rfl (lv_at hl 1 rfl) ?_
        refine lv_if_ne (tgt := 63) hx hb dX2_readBit_56 (by decide) (fun c_56 => ?_) (fun c_56 => ?_)
        · refine lv_iload_n hx hb dX2_readBit_63 rfl (lv_at hl 1 rfl) ?_
          have hP9 := hP.sub (ws' := [(ox, .inr (2, [.int st, .int lf, .int ao, .ref ow, .ref og, .ref oc, .ref od, .int bad])), (ow, .inr (0, [.int lf, .ref oaw, .int wr.2])), (oaw, .inl (cIw, 600, .inl wr.1)), (og, .inr (1, [.ref ow, .int st, .int sib, .int tw.1, .int tw.2.1, .int tw.2.2.1, .int tw.2.2.2])), (oc, .inr (0, [.int lf, .ref oac, .int cr.2])), (oac, .inl (cIc, 600, .inl cr.1)), (od, .inr (1, [.ref oc, .int st, .int sib, .int u_6.1, .int u_6.2.1, .int u_6.2.2.1, .int u_6.2.2.2]))]) [0, 1, 2, 3, 5, 6, 4] rfl
          have hD9 := hD.sub (ws' := [(ox, .inr (2, [.int st, .int lf, .int ao, .ref ow, .ref og, .ref oc, .ref od, .int bad])), (ow, .inr (0, [.int lf, .ref oaw, .int wr.2])), (oaw, .inl (cIw, 600, .inl wr.1)), (og, .inr (1, [.ref ow, .int st, .int sib, .int tw.1, .int tw.2.1, .int tw.2.2.1, .int tw.2.2.2])), (oc, .inr (0, [.int lf, .ref oac, .int cr.2])), (oac, .inl (cIc, 600, .inl cr.1)), (od, .inr (1, [.ref oc, .int st, .int sib, .int u_6.1, .int u_6.2.1, .int u_6.2.2.1, .int u_6.2.2.2]))]) [0, 1, 2, 3, 5, 6, 4] (by decide) rfl
          exact W.iret (v := r_1) hx hb hr (fun t ht hW => ⟨⟨r_1, u_6, rfl, (plX2_readBit_0 st lf ao sib wr tw cr tr bad _ hw_2 c_6 c_15 _ hw_4 _ hw_5 c_47 c_56), by rw [ht]; exact hP9, hD9⟩, hS.F ht⟩) hS.2.2 dX2_readBit_64
        · refine lv_iload_n hx hb dX2_readBit_59 rfl (lv_at hl 0 rfl) ?_
          refine lv_goto (tgt := 64) hx hb dX2_readBit_60 (by decide) ?_
          have hP9 := hP.sub (ws' := [(ox, .inr (2, [.int st, .int lf, .int ao, .ref ow, .ref og, .ref oc, .ref od, .int bad])), (ow, .inr (0, [.int lf, .ref oaw, .int wr.2])), (oaw, .inl (cIw, 600, .inl wr.1)), (og, .inr (1, [.ref ow, .int st, .int sib, .int tw.1, .int tw.2.1, .int tw.2.2.1, .int tw.2.2.2])), (oc, .inr (0, [.int lf, .ref oac, .int cr.2])), (oac, .inl (cIc, 600, .inl cr.1)), (od, .inr (1, [.ref oc, .int st, .int sib, .int u_6.1, .int u_6.2.1, .int u_6.2.2.1, .int u_6.2.2.2]))]) [0, 1, 2, 3, 5, 6, 4] rfl
          have hD9 := hD.sub (ws' := [(ox, .inr (2, [.int st, .int lf, .int ao, .ref ow, .ref og, .ref oc, .ref od, .int bad])), (ow, .inr (0, [.int lf, .ref oaw, .int wr.2])), (oaw, .inl (cIw, 600, .inl wr.1)), (og, .inr (1, [.ref ow, .int st, .int sib, .int tw.1, .int tw.2.1, .int tw.2.2.1, .int tw.2.2.2])), (oc, .inr (0, [.int lf, .ref oac, .int cr.2])), (oac, .inl (cIc, 600, .inl cr.1)), (od, .inr (1, [.ref oc, .int st, .int sib, .int u_6.1, .int u_6.2.1, .int u_6.2.2.1, .int u_6.2.2.2]))]) [0, 1, 2, 3, 5, 6, 4] (by decide) rfl
          exact W.iret (v := r_3) hx hb hr (fun t ht hW => ⟨⟨r_3, u_6, rfl, (plX2_readBit_1 st lf ao sib wr tw cr tr bad _ hw_2 c_6 c_15 _ hw_4 _ hw_5 c_47 c_56), by rw [ht]; exact hP9, hD9⟩, hS.F ht⟩) hS.2.2 dX2_readBit_64
      · refine lv_aload_n hx hb dX2_readBit_50 rfl (lv_at hl 2 rfl) ?_
        have hPc := hP.sub (ws' := [(ox, .inr (2, [.int st, .int lf, .int ao, .ref ow, .ref og, .ref oc, .ref od, .int bad])), (ow, .inr (0, [.int lf, .ref oaw, .int wr.2])), (oaw, .inl (cIw, 600, .inl wr.1)), (og, .inr (1, [.ref ow, .int st, .int sib, .int tw.1, .int tw.2.1, .int tw.2.2.1, .int tw.2.2.2])), (oc, .inr (0, [.int lf, .ref oac, .int cr.2])), (oac, .inl (cIc, 600, .inl cr.1)), (od, .inr (1, [.ref oc, .int st, .int sib, .int u_6.1, .int u_6.2.1, .int u_6.2.2.1, .int u_6.2.2.2]))]) [0, 1, 2, 3, 5, 6, 4] rfl
        have hKc := hK.sub (tys' := [(cIw, .int), (cIc, .int)]) [0, 1] rfl
        have hDc := hD.sub (ws' := [(ox, .inr (2, [.int st, .int lf, .int ao, .ref ow, .ref og, .ref oc, .ref od, .int bad])), (ow, .inr (0, [.int lf, .ref oaw, .int wr.2])), (oaw, .inl (cIw, 600, .inl wr.1)), (og, .inr (1, [.ref ow, .int st, .int sib, .int tw.1, .int tw.2.1, .int tw.2.2.1, .int tw.2.2.2])), (oc, .inr (0, [.int lf, .ref oac, .int cr.2])), (oac, .inl (cIc, 600, .inl cr.1)), (od, .inr (1, [.ref oc, .int st, .int sib, .int u_6.1, .int u_6.2.1, .int u_6.2.2.1, .int u_6.2.2.2]))]) [0, 1, 2, 3, 5, 6, 4] (by decide) rfl
        have hFc := va_free (wc := [(ox, .inr (2, [.int st, .int lf, .int ao, .ref ow, .ref og, .ref oc, .ref od, .int bad])), (ow, .inr (0, [.int lf, .ref oaw, .int wr.2])), (oaw, .inl (cIw, 600, .inl wr.1)), (og, .inr (1, [.ref ow, .int st, .int sib, .int tw.1, .int tw.2.1, .int tw.2.2.1, .int tw.2.2.2])), (oc, .inr (0, [.int lf, .ref oac, .int cr.2])), (oac, .inl (cIc, 600, .inl cr.1)), (od, .inr (1, [.ref oc, .int st, .int sib, .int u_6.1, .int u_6.2.1, .int u_6.2.2.1, .int u_6.2.2.2]))]) hD hS hA [0, 1, 2, 3, 5, 6, 4] rfl
        refine va_calli (va_runV (As := []) (rest := []) ⟨hx, hb, hml, hown, hts⟩ (mX2_readStuffedIfDue l dC dI cIw cIc ox ow oaw og oc oac od H.size st lf ao sib wr tw cr u_6 bad) (cwV 0 hts (gV wd402 wd403 wd10 wd26 wd404) rfl rfl rfl (by decide +kernel) ⟨Nat.le_of_ble_eq_true rfl, Nat.le_of_ble_eq_true rfl⟩) ⟨fb_rw, va_recv hKc hPc (ci := 2) (q0 := 0) rfl rfl, pre_rw hPc hKc hDc hZ⟩ rfl rfl hl.1 rfl (lv_room (Nat.le_of_ble_eq_true rfl)) dX2_readBit_51 ⟨Nat.le_of_ble_eq_true rfl, Nat.le_of_ble_eq_true rfl⟩) hS (fun q _ h => hFc q h) hFc (fun r_7 u_9 t H1 locs ht hvm hw_8 hB hz1 hk1 hS => ?_)
        obtain ⟨hP1, hD1⟩ := hB
        rw [ht] at hP1
        obtain ⟨hP, hD⟩ := va_join (wr := []) (w1 := [(ox, .inr (2, [.int st, .int lf, .int ao, .ref ow, .ref og, .ref oc, .ref od, .int bad])), (ow, .inr (0, [.int lf, .ref oaw, .int wr.2])), (oaw, .inl (cIw, 600, .inl wr.1)), (og, .inr (1, [.ref ow, .int st, .int sib, .int tw.1, .int tw.2.1, .int tw.2.2.1, .int tw.2.2.2])), (oc, .inr (0, [.int lf, .ref oac, .int cr.2])), (oac, .inl (cIc, 600, .inl cr.1)), (od, .inr (1, [.ref oc, .int st, .int sib, .int u_9.1, .int u_9.2.1, .int u_9.2.2.1, .int u_9.2.2.2]))]) hP hD [0, 1, 2, 3, 5, 6, 4] [] rfl rfl (by decide) (by decide) hk1 hFc hP1 hD1
        generalize H1 = H at hP hS ⊢
        have hP : va_P (dC, dI) vwCl [(ox, .inr (2, [.int st, .int lf, .int ao, .ref ow, .ref og, .ref oc, .ref od, .int bad])), (ow, .inr (0, [.int lf, .ref oaw, .int wr.2])), (oaw, .inl (cIw, 600, .inl wr.1)), (og, .inr (1, [.ref ow, .int st, .int sib, .int tw.1, .int tw.2.1, .int tw.2.2.1, .int tw.2.2.2])), (oc, .inr (0, [.int lf, .ref oac, .int cr.2])), (oac, .inl (cIc, 600, .inl cr.1)), (od, .inr (1, [.ref oc, .int st, .int sib, .int u_9.1, .int u_9.2.1, .int u_9.2.2.1, .int u_9.2.2.2]))] H := hP
        have hD : va_D A [(ox, .inr (2, [.int st, .int lf, .int ao, .ref ow, .ref og, .ref oc, .ref od, .int bad])), (ow, .inr (0, [.int lf, .ref oaw, .int wr.2])), (oaw, .inl (cIw, 600, .inl wr.1)), (og, .inr (1, [.ref ow, .int st, .int sib, .int tw.1, .int tw.2.1, .int tw.2.2.1, .int tw.2.2.2])), (oc, .inr (0, [.int lf, .ref oac, .int cr.2])), (oac, .inl (cIc, 600, .inl cr.1)), (od, .inr (1, [.ref oc, .int st, .int sib, .int u_9.1, .int u_9.2.1, .int u_9.2.2.1, .int u_9.2.2.2]))] := hD
        refine lv_istore_n (lv' := [(1, .int r_7), (2, .int r_3), (0, .ref ox)]) hx hb dX2_readBit_54 rfl hl (by decide) rfl (fun ls hl => ?_)
        refine lv_iload_n hx hb dX2_readBit_55 rfl (lv_at hl 0 rfl) ?_
        refine lv_if_ne (tgt := 63) hx hb dX2_readBit_56 (by decide) (fun c_56 => ?_) (fun c_56 => ?_)
        · refine lv_iload_n hx hb dX2_readBit_63 rfl (lv_at hl 0 rfl) ?_
          have hP9 := hP.sub (ws' := [(ox, .inr (2, [.int st, .int lf, .int ao, .ref ow, .ref og, .ref oc, .ref od, .int bad])), (ow, .inr (0, [.int lf, .ref oaw, .int wr.2])), (oaw, .inl (cIw, 600, .inl wr.1)), (og, .inr (1, [.ref ow, .int st, .int sib, .int tw.1, .int tw.2.1, .int tw.2.2.1, .int tw.2.2.2])), (oc, .inr (0, [.int lf, .ref oac, .int cr.2])), (oac, .inl (cIc, 600, .inl cr.1)), (od, .inr (1, [.ref oc, .int st, .int sib, .int u_9.1, .int u_9.2.1, .int u_9.2.2.1, .int u_9.2.2.2]))]) [0, 1, 2, 3, 4, 5, 6] rfl
          have hD9 := hD.sub (ws' := [(ox, .inr (2, [.int st, .int lf, .int ao, .ref ow, .ref og, .ref oc, .ref od, .int bad])), (ow, .inr (0, [.int lf, .ref oaw, .int wr.2])), (oaw, .inl (cIw, 600, .inl wr.1)), (og, .inr (1, [.ref ow, .int st, .int sib, .int tw.1, .int tw.2.1, .int tw.2.2.1, .int tw.2.2.2])), (oc, .inr (0, [.int lf, .ref oac, .int cr.2])), (oac, .inl (cIc, 600, .inl cr.1)), (od, .inr (1, [.ref oc, .int st, .int sib, .int u_9.1, .int u_9.2.1, .int u_9.2.2.1, .int u_9.2.2.2]))]) [0, 1, 2, 3, 4, 5, 6] (by decide) rfl
          exact W.iret (v := r_7) hx hb hr (fun t ht hW => ⟨⟨r_7, u_9, rfl, (plX2_readBit_2 st lf ao sib wr tw cr tr bad _ hw_2 c_6 c_15 _ hw_4 _ hw_5 c_47 _ _ hw_8 c_56), by rw [ht]; exact hP9, hD9⟩, hS.F ht⟩) hS.2.2 dX2_readBit_64
        · refine lv_iload_n hx hb dX2_readBit_59 rfl (lv_at hl 1 rfl) ?_
          refine lv_goto (tgt := 64) hx hb dX2_readBit_60 (by decide) ?_
          have hP9 := hP.sub (ws' := [(ox, .inr (2, [.int st, .int lf, .int ao, .ref ow, .ref og, .ref oc, .ref od, .int bad])), (ow, .inr (0, [.int lf, .ref oaw, .int wr.2])), (oaw, .inl (cIw, 600, .inl wr.1)), (og, .inr (1, [.ref ow, .int st, .int sib, .int tw.1, .int tw.2.1, .int tw.2.2.1, .int tw.2.2.2])), (oc, .inr (0, [.int lf, .ref oac, .int cr.2])), (oac, .inl (cIc, 600, .inl cr.1)), (od, .inr (1, [.ref oc, .int st, .int sib, .int u_9.1, .int u_9.2.1, .int u_9.2.2.1, .int u_9.2.2.2]))]) [0, 1, 2, 3, 4, 5, 6] rfl
          have hD9 := hD.sub (ws' := [(ox, .inr (2, [.int st, .int lf, .int ao, .ref ow, .ref og, .ref oc, .ref od, .int bad])), (ow, .inr (0, [.int lf, .ref oaw, .int wr.2])), (oaw, .inl (cIw, 600, .inl wr.1)), (og, .inr (1, [.ref ow, .int st, .int sib, .int tw.1, .int tw.2.1, .int tw.2.2.1, .int tw.2.2.2])), (oc, .inr (0, [.int lf, .ref oac, .int cr.2])), (oac, .inl (cIc, 600, .inl cr.1)), (od, .inr (1, [.ref oc, .int st, .int sib, .int u_9.1, .int u_9.2.1, .int u_9.2.2.1, .int u_9.2.2.2]))]) [0, 1, 2, 3, 4, 5, 6] (by decide) rfl
          exact W.iret (v := r_3) hx hb hr (fun t ht hW => ⟨⟨r_3, u_9, rfl, (plX2_readBit_3 st lf ao sib wr tw cr tr bad _ hw_2 c_6 c_15 _ hw_4 _ hw_5 c_47 _ _ hw_8 c_56), by rw [ht]; exact hP9, hD9⟩, hS.F ht⟩) hS.2.2 dX2_readBit_64
    · refine lv_iload_n hx hb dX2_readBit_18 rfl (lv_at hl 0 rfl) ?_
      have hP9 := hP.sub (ws' := [(ox, .inr (2, [.int st, .int lf, .int ao, .ref ow, .ref og, .ref oc, .ref od, .int bad])), (ow, .inr (0, [.int lf, .ref oaw, .int wr.2])), (oaw, .inl (cIw, 600, .inl wr.1)), (og, .inr (1, [.ref ow, .int st, .int sib, .int tw.1, .int tw.2.1, .int tw.2.2.1, .int tw.2.2.2])), (oc, .inr (0, [.int lf, .ref oac, .int cr.2])), (oac, .inl (cIc, 600, .inl cr.1)), (od, .inr (1, [.ref oc, .int st, .int sib, .int tr.1, .int tr.2.1, .int tr.2.2.1, .int tr.2.2.2]))]) [0, 1, 2, 3, 4, 5, 6] rfl
      have hD9 := hD.sub (ws' := [(ox, .inr (2, [.int st, .int lf, .int ao, .ref ow, .ref og, .ref oc, .ref od, .int bad])), (ow, .inr (0, [.int lf, .ref oaw, .int wr.2])), (oaw, .inl (cIw, 600, .inl wr.1)), (og, .inr (1, [.ref ow, .int st, .int sib, .int tw.1, .int tw.2.1, .int tw.2.2.1, .int tw.2.2.2])), (oc, .inr (0, [.int lf, .ref oac, .int cr.2])), (oac, .inl (cIc, 600, .inl cr.1)), (od, .inr (1, [.ref oc, .int st, .int sib, .int tr.1, .int tr.2.1, .int tr.2.2.1, .int tr.2.2.2]))]) [0, 1, 2, 3, 4, 5, 6] (by decide) rfl
      exact W.iret (v := r_1) hx hb hr (fun t ht hW => ⟨⟨r_1, tr, rfl, (plX2_readBit_4 st lf ao sib wr tw cr tr bad _ hw_2 c_6 c_15), by rw [ht]; exact hP9, hD9⟩, hS.F ht⟩) hS.2.2 dX2_readBit_19
  · refine lv_aload_n hx hb dX2_readBit_9 rfl (lv_at hl 1 rfl) ?_
    have hPc := hP.sub (ws' := [(ox, .inr (2, [.int st, .int lf, .int ao, .ref ow, .ref og, .ref oc, .ref od, .int bad])), (ow, .inr (0, [.int lf, .ref oaw, .int wr.2])), (oaw, .inl (cIw, 600, .inl wr.1)), (og, .inr (1, [.ref ow, .int st, .int sib, .int tw.1, .int tw.2.1, .int tw.2.2.1, .int tw.2.2.2])), (oc, .inr (0, [.int lf, .ref oac, .int cr.2])), (oac, .inl (cIc, 600, .inl cr.1)), (od, .inr (1, [.ref oc, .int st, .int sib, .int tr.1, .int tr.2.1, .int tr.2.2.1, .int tr.2.2.2]))]) [0, 1, 2, 3, 4, 5, 6] rfl
    have hKc := hK.sub (tys' := [(cIw, .int), (cIc, .int)]) [0, 1] rfl
    have hDc := hD.sub (ws' := [(ox, .inr (2, [.int st, .int lf, .int ao, .ref ow, .ref og, .ref oc, .ref od, .int bad])), (ow, .inr (0, [.int lf, .ref oaw, .int wr.2])), (oaw, .inl (cIw, 600, .inl wr.1)), (og, .inr (1, [.ref ow, .int st, .int sib, .int tw.1, .int tw.2.1, .int tw.2.2.1, .int tw.2.2.2])), (oc, .inr (0, [.int lf, .ref oac, .int cr.2])), (oac, .inl (cIc, 600, .inl cr.1)), (od, .inr (1, [.ref oc, .int st, .int sib, .int tr.1, .int tr.2.1, .int tr.2.2.1, .int tr.2.2.2]))]) [0, 1, 2, 3, 4, 5, 6] (by decide) rfl
    have hFc := va_free (wc := [(ox, .inr (2, [.int st, .int lf, .int ao, .ref ow, .ref og, .ref oc, .ref od, .int bad])), (ow, .inr (0, [.int lf, .ref oaw, .int wr.2])), (oaw, .inl (cIw, 600, .inl wr.1)), (og, .inr (1, [.ref ow, .int st, .int sib, .int tw.1, .int tw.2.1, .int tw.2.2.1, .int tw.2.2.2])), (oc, .inr (0, [.int lf, .ref oac, .int cr.2])), (oac, .inl (cIc, 600, .inl cr.1)), (od, .inr (1, [.ref oc, .int st, .int sib, .int tr.1, .int tr.2.1, .int tr.2.2.1, .int tr.2.2.2]))]) hD hS hA [0, 1, 2, 3, 4, 5, 6] rfl
    refine va_calli (va_runV (As := []) (rest := []) ⟨hx, hb, hml, hown, hts⟩ (mX2_readStuffedIfDue l dC dI cIw cIc ox ow oaw og oc oac od s.heap.size st lf ao sib wr tw cr tr bad) (cwV 0 hts (gV wd402 wd403 wd10 wd26 wd404) rfl rfl rfl (by decide +kernel) ⟨Nat.le_of_ble_eq_true rfl, Nat.le_of_ble_eq_true rfl⟩) ⟨fb_rw, va_recv hKc hPc (ci := 2) (q0 := 0) rfl rfl, pre_rw hPc hKc hDc hZ⟩ rfl rfl hl.1 rfl (lv_room (Nat.le_of_ble_eq_true rfl)) dX2_readBit_10 ⟨Nat.le_of_ble_eq_true rfl, Nat.le_of_ble_eq_true rfl⟩) hS (fun q _ h => hFc q h) hFc (fun r_10 u_12 t H1 locs ht hvm hw_11 hB hz1 hk1 hS => ?_)
    obtain ⟨hP1, hD1⟩ := hB
    rw [ht] at hP1
    obtain ⟨hP, hD⟩ := va_join (wr := []) (w1 := [(ox, .inr (2, [.int st, .int lf, .int ao, .ref ow, .ref og, .ref oc, .ref od, .int bad])), (ow, .inr (0, [.int lf, .ref oaw, .int wr.2])), (oaw, .inl (cIw, 600, .inl wr.1)), (og, .inr (1, [.ref ow, .int st, .int sib, .int tw.1, .int tw.2.1, .int tw.2.2.1, .int tw.2.2.2])), (oc, .inr (0, [.int lf, .ref oac, .int cr.2])), (oac, .inl (cIc, 600, .inl cr.1)), (od, .inr (1, [.ref oc, .int st, .int sib, .int u_12.1, .int u_12.2.1, .int u_12.2.2.1, .int u_12.2.2.2]))]) hP hD [0, 1, 2, 3, 4, 5, 6] [] rfl rfl (by decide) (by decide) hk1 hFc hP1 hD1
    generalize H1 = H at hP hS ⊢
    have hP : va_P (dC, dI) vwCl [(ox, .inr (2, [.int st, .int lf, .int ao, .ref ow, .ref og, .ref oc, .ref od, .int bad])), (ow, .inr (0, [.int lf, .ref oaw, .int wr.2])), (oaw, .inl (cIw, 600, .inl wr.1)), (og, .inr (1, [.ref ow, .int st, .int sib, .int tw.1, .int tw.2.1, .int tw.2.2.1, .int tw.2.2.2])), (oc, .inr (0, [.int lf, .ref oac, .int cr.2])), (oac, .inl (cIc, 600, .inl cr.1)), (od, .inr (1, [.ref oc, .int st, .int sib, .int u_12.1, .int u_12.2.1, .int u_12.2.2.1, .int u_12.2.2.2]))] H := hP
    have hD : va_D A [(ox, .inr (2, [.int st, .int lf, .int ao, .ref ow, .ref og, .ref oc, .ref od, .int bad])), (ow, .inr (0, [.int lf, .ref oaw, .int wr.2])), (oaw, .inl (cIw, 600, .inl wr.1)), (og, .inr (1, [.ref ow, .int st, .int sib, .int tw.1, .int tw.2.1, .int tw.2.2.1, .int tw.2.2.2])), (oc, .inr (0, [.int lf, .ref oac, .int cr.2])), (oac, .inl (cIc, 600, .inl cr.1)), (od, .inr (1, [.ref oc, .int st, .int sib, .int u_12.1, .int u_12.2.1, .int u_12.2.2.1, .int u_12.2.2.2]))] := hD
    refine lv_istore_n (lv' := [(1, .int r_10), (0, .ref ox)]) hx hb dX2_readBit_13 rfl hl (by decide) rfl (fun ls hl => ?_)
    refine lv_iload_n hx hb dX2_readBit_14 rfl (lv_at hl 0 rfl) ?_
    refine lv_if_eq (tgt := 20) hx hb dX2_readBit_15 (by decide) (fun c_15 => ?_) (fun c_15 => ?_)
    · refine lv_aload_n hx hb dX2_readBit_20 rfl (lv_at hl 1 rfl) ?_
      refine va_get (D := (dC, dI)) (ci := 2) (v := .ref oc) (C := RX2) (T := TX2) (N := 8) hx hb hts inGX2 hown hK hP 0 rfl rfl 5 (by decide) (hts _ wd103) (fun _ h9 => h9) rfl dX2_readBit_21 ?_
      refine lv_aload_n hx hb dX2_readBit_24 rfl (lv_at hl 1 rfl) ?_
      refine va_get (D := (dC, dI)) (ci := 2) (v := .ref od) (C := RX2) (T := TX2) (N := 8) hx hb hts inGX2 hown hK hP 0 rfl rfl 6 (by decide) (hts _ wd104) (fun _ h9 => h9) rfl dX2_readBit_25 ?_
      refine va_getN (D := (dC, dI)) (ci := 1) (v := .int u_12.1) (C := RX1) (T := TX1) (N := 7) hx hb hts inGX1 hown hK hP 6 rfl rfl 3 (by decide) (hZ.use zw2 rfl) (fun _ h9 => h9) rfl dX2_readBit_28 ?_
      have hPc := hP.sub (ws' := [(oc, .inr (0, [.int lf, .ref oac, .int cr.2])), (oac, .inl (cIc, 600, .inl cr.1))]) [4, 5] rfl
      have hKc := hK.sub (tys' := [(cIc, .int)]) [1] rfl
      refine vp_callSi (va_Run.run (va_runV (As := [.int u_12.1]) (rest := []) ⟨hx, hb, hml, hown, hts⟩ (mX0_bitOf l dC dI cIc oc oac lf cr u_12.1) (cwV 1 hts (gV wd150 wd151 wd152 wd28 wd153) rfl rfl rfl (by decide +kernel) ⟨Nat.le_of_ble_eq_true rfl, Nat.le_of_ble_eq_true rfl⟩) ⟨fb_ro, va_recv hKc hPc (ci := 0) (q0 := 0) rfl rfl, pre_ro hPc hKc hZ⟩ rfl rfl hl.1 rfl (lv_room (Nat.le_of_ble_eq_true rfl)) dX2_readBit_31 ⟨Nat.le_of_ble_eq_true rfl, Nat.le_of_ble_eq_true rfl⟩)) (fun r_13 hw_14 => ?_)
      refine lv_istore_n (lv' := [(2, .int r_13), (1, .int r_10), (0, .ref ox)]) hx hb dX2_readBit_34 rfl hl (by decide) rfl (fun ls hl => ?_)
      refine lv_aload_n hx hb dX2_readBit_35 rfl (lv_at hl 2 rfl) ?_
      refine va_get (D := (dC, dI)) (ci := 2) (v := .ref od) (C := RX2) (T := TX2) (N := 8) hx hb hts inGX2 hown hK hP 0 rfl rfl 6 (by decide) (hts _ wd104) (fun _ h9 => h9) rfl dX2_readBit_36 ?_
      refine lv_iload_n hx hb dX2_readBit_39 rfl (lv_at hl 0 rfl) ?_
      have hPc := hP.sub (ws' := [(od, .inr (1, [.ref oc, .int st, .int sib, .int u_12.1, .int u_12.2.1, .int u_12.2.2.1, .int u_12.2.2.2])), (oc, .inr (0, [.int lf, .ref oac, .int cr.2])), (oac, .inl (cIc, 600, .inl cr.1))]) [6, 4, 5] rfl
      have hKc := hK.sub (tys' := [(cIc, .int)]) [1] rfl
      have hDc := hD.sub (ws' := [(od, .inr (1, [.ref oc, .int st, .int sib, .int u_12.1, .int u_12.2.1, .int u_12.2.2.1, .int u_12.2.2.2])), (oc, .inr (0, [.int lf, .ref oac, .int cr.2])), (oac, .inl (cIc, 600, .inl cr.1))]) [6, 4, 5] (by decide) rfl
      have hFc := va_free (wc := [(od, .inr (1, [.ref oc, .int st, .int sib, .int u_12.1, .int u_12.2.1, .int u_12.2.2.1, .int u_12.2.2.2])), (oc, .inr (0, [.int lf, .ref oac, .int cr.2])), (oac, .inl (cIc, 600, .inl cr.1))]) hD hS hA [6, 4, 5] rfl
      refine va_callv (va_runV (As := [.int r_13]) (rest := []) ⟨hx, hb, hml, hown, hts⟩ (mX1_stepOver l dC dI cIc od oc oac H.size st sib lf u_12 cr r_13) (cwV 1 hts (gV wd158 wd159 wd160 wd29 wd161) rfl rfl rfl (by decide +kernel) ⟨Nat.le_of_ble_eq_true rfl, Nat.le_of_ble_eq_true rfl⟩) ⟨fb_rw, va_recv hKc hPc (ci := 1) (q0 := 0) rfl rfl, pre_rw hPc hKc hDc hZ⟩ rfl rfl hl.1 rfl (lv_room (Nat.le_of_ble_eq_true rfl)) dX2_readBit_40 ⟨Nat.le_of_ble_eq_true rfl, Nat.le_of_ble_eq_true rfl⟩) hS (fun q _ h => hFc q h) hFc (fun u_16 t H1 locs ht hvm hw_15 hB hz1 hk1 hS => ?_)
      obtain ⟨hP1, hD1⟩ := hB
      rw [ht] at hP1
      obtain ⟨hP, hD⟩ := va_join (wr := [(ox, .inr (2, [.int st, .int lf, .int ao, .ref ow, .ref og, .ref oc, .ref od, .int bad])), (ow, .inr (0, [.int lf, .ref oaw, .int wr.2])), (oaw, .inl (cIw, 600, .inl wr.1)), (og, .inr (1, [.ref ow, .int st, .int sib, .int tw.1, .int tw.2.1, .int tw.2.2.1, .int tw.2.2.2]))]) (w1 := [(od, .inr (1, [.ref oc, .int st, .int sib, .int u_16.1, .int u_16.2.1, .int u_16.2.2.1, .int u_16.2.2.2])), (oc, .inr (0, [.int lf, .ref oac, .int cr.2])), (oac, .inl (cIc, 600, .inl cr.1))]) hP hD [6, 4, 5] [0, 1, 2, 3] rfl rfl (by decide) (by decide) hk1 hFc hP1 hD1
      generalize H1 = H at hP hS ⊢
      have hP : va_P (dC, dI) vwCl [(ox, .inr (2, [.int st, .int lf, .int ao, .ref ow, .ref og, .ref oc, .ref od, .int bad])), (ow, .inr (0, [.int lf, .ref oaw, .int wr.2])), (oaw, .inl (cIw, 600, .inl wr.1)), (og, .inr (1, [.ref ow, .int st, .int sib, .int tw.1, .int tw.2.1, .int tw.2.2.1, .int tw.2.2.2])), (od, .inr (1, [.ref oc, .int st, .int sib, .int u_16.1, .int u_16.2.1, .int u_16.2.2.1, .int u_16.2.2.2])), (oc, .inr (0, [.int lf, .ref oac, .int cr.2])), (oac, .inl (cIc, 600, .inl cr.1))] H := hP
      have hD : va_D A [(ox, .inr (2, [.int st, .int lf, .int ao, .ref ow, .ref og, .ref oc, .ref od, .int bad])), (ow, .inr (0, [.int lf, .ref oaw, .int wr.2])), (oaw, .inl (cIw, 600, .inl wr.1)), (og, .inr (1, [.ref ow, .int st, .int sib, .int tw.1, .int tw.2.1, .int tw.2.2.1, .int tw.2.2.2])), (od, .inr (1, [.ref oc, .int st, .int sib, .int u_16.1, .int u_16.2.1, .int u_16.2.2.1, .int u_16.2.2.2])), (oc, .inr (0, [.int lf, .ref oac, .int cr.2])), (oac, .inl (cIc, 600, .inl cr.1))] := hD
      refine lv_aload_n hx hb dX2_readBit_43 rfl (lv_at hl 2 rfl) ?_
      refine va_get (D := (dC, dI)) (ci := 2) (v := .int ao) (C := RX2) (T := TX2) (N := 8) hx hb hts inGX2 hown hK hP 0 rfl rfl 2 (by decide) (hts _ wd100) (fun _ h9 => h9) rfl dX2_readBit_44 ?_
      refine lv_if_eq (tgt := 55) hx hb dX2_readBit_47 (by decide) (fun c_47 => ?_) (fun c_47 => ?_)
      · refine lv_iload_n hx hb dX2_readBit_55 rfl (lv_at hl 1 rfl) ?_
        refine lv_if_ne (tgt := 63) hx hb dX2_readBit_56 (by decide) (fun c_56 => ?_) (fun c_56 => ?_)
        · refine lv_iload_n hx hb dX2_readBit_63 rfl (lv_at hl 1 rfl) ?_
          have hP9 := hP.sub (ws' := [(ox, .inr (2, [.int st, .int lf, .int ao, .ref ow, .ref og, .ref oc, .ref od, .int bad])), (ow, .inr (0, [.int lf, .ref oaw, .int wr.2])), (oaw, .inl (cIw, 600, .inl wr.1)), (og, .inr (1, [.ref ow, .int st, .int sib, .int tw.1, .int tw.2.1, .int tw.2.2.1, .int tw.2.2.2])), (oc, .inr (0, [.int lf, .ref oac, .int cr.2])), (oac, .inl (cIc, 600, .inl cr.1)), (od, .inr (1, [.ref oc, .int st, .int sib, .int u_16.1, .int u_16.2.1, .int u_16.2.2.1, .int u_16.2.2.2]))]) [0, 1, 2, 3, 5, 6, 4] rfl
          have hD9 := hD.sub (ws' := [(ox, .inr (2, [.int st, .int lf, .int ao, .ref ow, .ref og, .ref oc, .ref od, .int bad])), (ow, .inr (0, [.int lf, .ref oaw, .int wr.2])), (oaw, .inl (cIw, 600, .inl wr.1)), (og, .inr (1, [.ref ow, .int st, .int sib, .int tw.1, .int tw.2.1, .int tw.2.2.1, .int tw.2.2.2])), (oc, .inr (0, [.int lf, .ref oac, .int cr.2])), (oac, .inl (cIc, 600, .inl cr.1)), (od, .inr (1, [.ref oc, .int st, .int sib, .int u_16.1, .int u_16.2.1, .int u_16.2.2.1, .int u_16.2.2.2]))]) [0, 1, 2, 3, 5, 6, 4] (by decide) rfl
          exact W.iret (v := r_10) hx hb hr (fun t ht hW => ⟨⟨r_10, u_16, rfl, (plX2_readBit_5 st lf ao sib wr tw cr tr bad _ hw_2 c_6 _ _ hw_11 c_15 _ hw_14 _ hw_15 c_47 c_56), by rw [ht]; exact hP9, hD9⟩, hS.F ht⟩) hS.2.2 dX2_readBit_64
        · refine lv_iload_n hx hb dX2_readBit_59 rfl (lv_at hl 0 rfl) ?_
          refine lv_goto (tgt := 64) hx hb dX2_readBit_60 (by decide) ?_
          have hP9 := hP.sub (ws' := [(ox, .inr (2, [.int st, .int lf, .int ao, .ref ow, .ref og, .ref oc, .ref od, .int bad])), (ow, .inr (0, [.int lf, .ref oaw, .int wr.2])), (oaw, .inl (cIw, 600, .inl wr.1)), (og, .inr (1, [.ref ow, .int st, .int sib, .int tw.1, .int tw.2.1, .int tw.2.2.1, .int tw.2.2.2])), (oc, .inr (0, [.int lf, .ref oac, .int cr.2])), (oac, .inl (cIc, 600, .inl cr.1)), (od, .inr (1, [.ref oc, .int st, .int sib, .int u_16.1, .int u_16.2.1, .int u_16.2.2.1, .int u_16.2.2.2]))]) [0, 1, 2, 3, 5, 6, 4] rfl
          have hD9 := hD.sub (ws' := [(ox, .inr (2, [.int st, .int lf, .int ao, .ref ow, .ref og, .ref oc, .ref od, .int bad])), (ow, .inr (0, [.int lf, .ref oaw, .int wr.2])), (oaw, .inl (cIw, 600, .inl wr.1)), (og, .inr (1, [.ref ow, .int st, .int sib, .int tw.1, .int tw.2.1, .int tw.2.2.1, .int tw.2.2.2])), (oc, .inr (0, [.int lf, .ref oac, .int cr.2])), (oac, .inl (cIc, 600, .inl cr.1)), (od, .inr (1, [.ref oc, .int st, .int sib, .int u_16.1, .int u_16.2.1, .int u_16.2.2.1, .int u_16.2.2.2]))]) [0, 1, 2, 3, 5, 6, 4] (by decide) rfl
          exact W.iret (v := r_13) hx hb hr (fun t ht hW => ⟨⟨r_13, u_16, rfl, (plX2_readBit_6 st lf ao sib wr tw cr tr bad _ hw_2 c_6 _ _ hw_11 c_15 _ hw_14 _ hw_15 c_47 c_56), by rw [ht]; exact hP9, hD9⟩, hS.F ht⟩) hS.2.2 dX2_readBit_64
      · refine lv_aload_n hx hb dX2_readBit_50 rfl (lv_at hl 2 rfl) ?_
        have hPc := hP.sub (ws' := [(ox, .inr (2, [.int st, .int lf, .int ao, .ref ow, .ref og, .ref oc, .ref od, .int bad])), (ow, .inr (0, [.int lf, .ref oaw, .int wr.2])), (oaw, .inl (cIw, 600, .inl wr.1)), (og, .inr (1, [.ref ow, .int st, .int sib, .int tw.1, .int tw.2.1, .int tw.2.2.1, .int tw.2.2.2])), (oc, .inr (0, [.int lf, .ref oac, .int cr.2])), (oac, .inl (cIc, 600, .inl cr.1)), (od, .inr (1, [.ref oc, .int st, .int sib, .int u_16.1, .int u_16.2.1, .int u_16.2.2.1, .int u_16.2.2.2]))]) [0, 1, 2, 3, 5, 6, 4] rfl
        have hKc := hK.sub (tys' := [(cIw, .int), (cIc, .int)]) [0, 1] rfl
        have hDc := hD.sub (ws' := [(ox, .inr (2, [.int st, .int lf, .int ao, .ref ow, .ref og, .ref oc, .ref od, .int bad])), (ow, .inr (0, [.int lf, .ref oaw, .int wr.2])), (oaw, .inl (cIw, 600, .inl wr.1)), (og, .inr (1, [.ref ow, .int st, .int sib, .int tw.1, .int tw.2.1, .int tw.2.2.1, .int tw.2.2.2])), (oc, .inr (0, [.int lf, .ref oac, .int cr.2])), (oac, .inl (cIc, 600, .inl cr.1)), (od, .inr (1, [.ref oc, .int st, .int sib, .int u_16.1, .int u_16.2.1, .int u_16.2.2.1, .int u_16.2.2.2]))]) [0, 1, 2, 3, 5, 6, 4] (by decide) rfl
        have hFc := va_free (wc := [(ox, .inr (2, [.int st, .int lf, .int ao, .ref ow, .ref og, .ref oc, .ref od, .int bad])), (ow, .inr (0, [.int lf, .ref oaw, .int wr.2])), (oaw, .inl (cIw, 600, .inl wr.1)), (og, .inr (1, [.ref ow, .int st, .int sib, .int tw.1, .int tw.2.1, .int tw.2.2.1, .int tw.2.2.2])), (oc, .inr (0, [.int lf, .ref oac, .int cr.2])), (oac, .inl (cIc, 600, .inl cr.1)), (od, .inr (1, [.ref oc, .int st, .int sib, .int u_16.1, .int u_16.2.1, .int u_16.2.2.1, .int u_16.2.2.2]))]) hD hS hA [0, 1, 2, 3, 5, 6, 4] rfl
        refine va_calli (va_runV (As := []) (rest := []) ⟨hx, hb, hml, hown, hts⟩ (mX2_readStuffedIfDue l dC dI cIw cIc ox ow oaw og oc oac od H.size st lf ao sib wr tw cr u_16 bad) (cwV 0 hts (gV wd402 wd403 wd10 wd26 wd404) rfl rfl rfl (by decide +kernel) ⟨Nat.le_of_ble_eq_true rfl, Nat.le_of_ble_eq_true rfl⟩) ⟨fb_rw, va_recv hKc hPc (ci := 2) (q0 := 0) rfl rfl, pre_rw hPc hKc hDc hZ⟩ rfl rfl hl.1 rfl (lv_room (Nat.le_of_ble_eq_true rfl)) dX2_readBit_51 ⟨Nat.le_of_ble_eq_true rfl, Nat.le_of_ble_eq_true rfl⟩) hS (fun q _ h => hFc q h) hFc (fun r_17 u_19 t H1 locs ht hvm hw_18 hB hz1 hk1 hS => ?_)
        obtain ⟨hP1, hD1⟩ := hB
        rw [ht] at hP1
        obtain ⟨hP, hD⟩ := va_join (wr := []) (w1 := [(ox, .inr (2, [.int st, .int lf, .int ao, .ref ow, .ref og, .ref oc, .ref od, .int bad])), (ow, .inr (0, [.int lf, .ref oaw, .int wr.2])), (oaw, .inl (cIw, 600, .inl wr.1)), (og, .inr (1, [.ref ow, .int st, .int sib, .int tw.1, .int tw.2.1, .int tw.2.2.1, .int tw.2.2.2])), (oc, .inr (0, [.int lf, .ref oac, .int cr.2])), (oac, .inl (cIc, 600, .inl cr.1)), (od, .inr (1, [.ref oc, .int st, .int sib, .int u_19.1, .int u_19.2.1, .int u_19.2.2.1, .int u_19.2.2.2]))]) hP hD [0, 1, 2, 3, 5, 6, 4] [] rfl rfl (by decide) (by decide) hk1 hFc hP1 hD1
        generalize H1 = H at hP hS ⊢
        have hP : va_P (dC, dI) vwCl [(ox, .inr (2, [.int st, .int lf, .int ao, .ref ow, .ref og, .ref oc, .ref od, .int bad])), (ow, .inr (0, [.int lf, .ref oaw, .int wr.2])), (oaw, .inl (cIw, 600, .inl wr.1)), (og, .inr (1, [.ref ow, .int st, .int sib, .int tw.1, .int tw.2.1, .int tw.2.2.1, .int tw.2.2.2])), (oc, .inr (0, [.int lf, .ref oac, .int cr.2])), (oac, .inl (cIc, 600, .inl cr.1)), (od, .inr (1, [.ref oc, .int st, .int sib, .int u_19.1, .int u_19.2.1, .int u_19.2.2.1, .int u_19.2.2.2]))] H := hP
        have hD : va_D A [(ox, .inr (2, [.int st, .int lf, .int ao, .ref ow, .ref og, .ref oc, .ref od, .int bad])), (ow, .inr (0, [.int lf, .ref oaw, .int wr.2])), (oaw, .inl (cIw, 600, .inl wr.1)), (og, .inr (1, [.ref ow, .int st, .int sib, .int tw.1, .int tw.2.1, .int tw.2.2.1, .int tw.2.2.2])), (oc, .inr (0, [.int lf, .ref oac, .int cr.2])), (oac, .inl (cIc, 600, .inl cr.1)), (od, .inr (1, [.ref oc, .int st, .int sib, .int u_19.1, .int u_19.2.1, .int u_19.2.2.1, .int u_19.2.2.2]))] := hD
        refine lv_istore_n (lv' := [(1, .int r_17), (2, .int r_13), (0, .ref ox)]) hx hb dX2_readBit_54 rfl hl (by decide) rfl (fun ls hl => ?_)
        refine lv_iload_n hx hb dX2_readBit_55 rfl (lv_at hl 0 rfl) ?_
        refine lv_if_ne (tgt := 63) hx hb dX2_readBit_56 (by decide) (fun c_56 => ?_) (fun c_56 => ?_)
        · refine lv_iload_n hx hb dX2_readBit_63 rfl (lv_at hl 0 rfl) ?_
          have hP9 := hP.sub (ws' := [(ox, .inr (2, [.int st, .int lf, .int ao, .ref ow, .ref og, .ref oc, .ref od, .int bad])), (ow, .inr (0, [.int lf, .ref oaw, .int wr.2])), (oaw, .inl (cIw, 600, .inl wr.1)), (og, .inr (1, [.ref ow, .int st, .int sib, .int tw.1, .int tw.2.1, .int tw.2.2.1, .int tw.2.2.2])), (oc, .inr (0, [.int lf, .ref oac, .int cr.2])), (oac, .inl (cIc, 600, .inl cr.1)), (od, .inr (1, [.ref oc, .int st, .int sib, .int u_19.1, .int u_19.2.1, .int u_19.2.2.1, .int u_19.2.2.2]))]) [0, 1, 2, 3, 4, 5, 6] rfl
          have hD9 := hD.sub (ws' := [(ox, .inr (2, [.int st, .int lf, .int ao, .ref ow, .ref og, .ref oc, .ref od, .int bad])), (ow, .inr (0, [.int lf, .ref oaw, .int wr.2])), (oaw, .inl (cIw, 600, .inl wr.1)), (og, .inr (1, [.ref ow, .int st, .int sib, .int tw.1, .int tw.2.1, .int tw.2.2.1, .int tw.2.2.2])), (oc, .inr (0, [.int lf, .ref oac, .int cr.2])), (oac, .inl (cIc, 600, .inl cr.1)), (od, .inr (1, [.ref oc, .int st, .int sib, .int u_19.1, .int u_19.2.1, .int u_19.2.2.1, .int u_19.2.2.2]))]) [0, 1, 2, 3, 4, 5, 6] (by decide) rfl
          exact W.iret (v := r_17) hx hb hr (fun t ht hW => ⟨⟨r_17, u_19, rfl, (plX2_readBit_7 st lf ao sib wr tw cr tr bad _ hw_2 c_6 _ _ hw_11 c_15 _ hw_14 _ hw_15 c_47 _ _ hw_18 c_56), by rw [ht]; exact hP9, hD9⟩, hS.F ht⟩) hS.2.2 dX2_readBit_64
        · refine lv_iload_n hx hb dX2_readBit_59 rfl (lv_at hl 1 rfl) ?_
          refine lv_goto (tgt := 64) hx hb dX2_readBit_60 (by decide) ?_
          have hP9 := hP.sub (ws' := [(ox, .inr (2, [.int st, .int lf, .int ao, .ref ow, .ref og, .ref oc, .ref od, .int bad])), (ow, .inr (0, [.int lf, .ref oaw, .int wr.2])), (oaw, .inl (cIw, 600, .inl wr.1)), (og, .inr (1, [.ref ow, .int st, .int sib, .int tw.1, .int tw.2.1, .int tw.2.2.1, .int tw.2.2.2])), (oc, .inr (0, [.int lf, .ref oac, .int cr.2])), (oac, .inl (cIc, 600, .inl cr.1)), (od, .inr (1, [.ref oc, .int st, .int sib, .int u_19.1, .int u_19.2.1, .int u_19.2.2.1, .int u_19.2.2.2]))]) [0, 1, 2, 3, 4, 5, 6] rfl
          have hD9 := hD.sub (ws' := [(ox, .inr (2, [.int st, .int lf, .int ao, .ref ow, .ref og, .ref oc, .ref od, .int bad])), (ow, .inr (0, [.int lf, .ref oaw, .int wr.2])), (oaw, .inl (cIw, 600, .inl wr.1)), (og, .inr (1, [.ref ow, .int st, .int sib, .int tw.1, .int tw.2.1, .int tw.2.2.1, .int tw.2.2.2])), (oc, .inr (0, [.int lf, .ref oac, .int cr.2])), (oac, .inl (cIc, 600, .inl cr.1)), (od, .inr (1, [.ref oc, .int st, .int sib, .int u_19.1, .int u_19.2.1, .int u_19.2.2.1, .int u_19.2.2.2]))]) [0, 1, 2, 3, 4, 5, 6] (by decide) rfl
          exact W.iret (v := r_13) hx hb hr (fun t ht hW => ⟨⟨r_13, u_19, rfl, (plX2_readBit_8 st lf ao sib wr tw cr tr bad _ hw_2 c_6 _ _ hw_11 c_15 _ hw_14 _ hw_15 c_47 _ _ hw_18 c_56), by rw [ht]; exact hP9, hD9⟩, hS.F ht⟩) hS.2.2 dX2_readBit_64
    · refine lv_iload_n hx hb dX2_readBit_18 rfl (lv_at hl 0 rfl) ?_
      have hP9 := hP.sub (ws' := [(ox, .inr (2, [.int st, .int lf, .int ao, .ref ow, .ref og, .ref oc, .ref od, .int bad])), (ow, .inr (0, [.int lf, .ref oaw, .int wr.2])), (oaw, .inl (cIw, 600, .inl wr.1)), (og, .inr (1, [.ref ow, .int st, .int sib, .int tw.1, .int tw.2.1, .int tw.2.2.1, .int tw.2.2.2])), (oc, .inr (0, [.int lf, .ref oac, .int cr.2])), (oac, .inl (cIc, 600, .inl cr.1)), (od, .inr (1, [.ref oc, .int st, .int sib, .int u_12.1, .int u_12.2.1, .int u_12.2.2.1, .int u_12.2.2.2]))]) [0, 1, 2, 3, 4, 5, 6] rfl
      have hD9 := hD.sub (ws' := [(ox, .inr (2, [.int st, .int lf, .int ao, .ref ow, .ref og, .ref oc, .ref od, .int bad])), (ow, .inr (0, [.int lf, .ref oaw, .int wr.2])), (oaw, .inl (cIw, 600, .inl wr.1)), (og, .inr (1, [.ref ow, .int st, .int sib, .int tw.1, .int tw.2.1, .int tw.2.2.1, .int tw.2.2.2])), (oc, .inr (0, [.int lf, .ref oac, .int cr.2])), (oac, .inl (cIc, 600, .inl cr.1)), (od, .inr (1, [.ref oc, .int st, .int sib, .int u_12.1, .int u_12.2.1, .int u_12.2.2.1, .int u_12.2.2.2]))]) [0, 1, 2, 3, 4, 5, 6] (by decide) rfl
      exact W.iret (v := r_10) hx hb hr (fun t ht hW => ⟨⟨r_10, u_12, rfl, (plX2_readBit_9 st lf ao sib wr tw cr tr bad _ hw_2 c_6 _ _ hw_11 c_15), by rw [ht]; exact hP9, hD9⟩, hS.F ht⟩) hS.2.2 dX2_readBit_19
